noncomputable def fX5_next (I : HI) (foot : Int32) (push : Int32) (lean : Int32) (hour : Int32) : Int32 × HI :=
  if fX5_isFoot foot = 0 then ((fX5_refuse I (-1)).1, ((fX5_refuse I (-1)).2)) else (if hour = (-1) then (if fX5_strokeFault push lean = 0 then (fX3_offOf ((fX1_nextBy I (I 1 3) (ix foot) push lean).2) ((fX1_nextBy I (I 1 3) (ix foot) push lean).1), ((fX1_nextBy I (I 1 3) (ix foot) push lean).2)) else ((fX5_refuse I (fX5_strokeFault push lean)).1, ((fX5_refuse I (fX5_strokeFault push lean)).2))) else (if fX5_isHour hour = 0 then ((fX5_refuse I (-1)).1, ((fX5_refuse I (-1)).2)) else (if fX5_strokeFault push lean = 0 then (((fX1_nextBy I (I 1 3) (ix foot) push lean).2) ((fX1_nextBy I (I 1 3) (ix foot) push lean).1 + 1) (ix hour), ((fX1_nextBy I (I 1 3) (ix foot) push lean).2)) else ((fX5_refuse I (fX5_strokeFault push lean)).1, ((fX5_refuse I (fX5_strokeFault push lean)).2)))))
theorem knX5_next : Kn yX5_next cX5_next 7 (some .int) 4 := ⟨q459, q1, ⟨by decide, by decide⟩, by decide +kernel⟩
set_option maxHeartbeats 400000 in
set_option maxRecDepth 100000 in
theorem kX5_next (I : HI) (foot : Int32) (push : Int32) (lean : Int32) (hour : Int32) (hd : vp_in (I 1 6) 7) : Cx yX5_next cX5_next 7 (some .int) 5 125 [vr 0, vi foot, vi push, vi lean, vi hour] I ((some (vi (((fX5_next I foot push lean hour).1))), (fX5_next I foot push lean hour).2)) := by
  refine Cx.mk (lv := [(0, vr 0), (1, vi foot), (2, vi push), (3, vi lean), (4, vi hour)]) (by decide) (Nat.le_of_ble_eq_true rfl) rfl (fun E ok hr => ?_)
  rw [fX5_next]
  refine g_iload_n (n := 1) ok 1 dX5_next_0 rfl rfl rfl ?_
  refine g_callS (n := 4) (rest := []) (av := [vi foot]) ok (kX5_isFoot I foot) knX5_isFoot q263 q264 dX5_next_1 rfl rfl (Nat.le_of_ble_eq_true rfl) (by decide) (by decide) rfl ?_
  refine g_if_eq (n := 7) (tgt := 21) ok dX5_next_4 (by decide) rfl (fun c1 => ?_) (fun c1 => ?_)
  · rw [if_pos c1]
    refine g_aload_n (n := 22) ok 0 dX5_next_21 rfl rfl rfl ?_
    refine g_iconst (n := 23) (v := -1) ok dX5_next_22 rfl rfl ?_
    refine g_callV (n := 26) (rest := []) (av := [vi (-1)]) (j := 0) ok (kX5_refuse I (-1)) knX5_refuse q189 q191 qs0 clsX5 rfl dX5_next_23 rfl rfl (Nat.le_of_ble_eq_true rfl) (by decide) (by decide) rfl ?_
    exact g_iret ok hr dX5_next_26
  · rw [if_neg c1]
    have ha2 : vp_in foot 2 := isFoot_in c1
    have ha2b := vb ha2
    refine g_iload (n := 9) ok 4 dX5_next_7 rfl rfl ?_
    refine g_iconst (n := 10) (v := -1) ok dX5_next_9 rfl rfl ?_
    refine g_icmp_eq (n := 13) (tgt := 27) ok dX5_next_10 (by decide) rfl (fun c3 => ?_) (fun c3 => ?_)
    · rw [if_pos c3]
      refine g_iload_n (n := 28) ok 2 dX5_next_27 rfl rfl rfl ?_
      refine g_iload_n (n := 29) ok 3 dX5_next_28 rfl rfl rfl ?_
      refine g_callS (n := 32) (rest := []) (av := [vi push, vi lean]) ok (kX5_strokeFault I push lean) knX5_strokeFault q360 q271 dX5_next_29 rfl rfl (Nat.le_of_ble_eq_true rfl) (by decide) (by decide) rfl ?_
      refine g_istore (n := 34) (lv' := [(5, vi (fX5_strokeFault push lean)), (0, vr 0), (1, vi foot), (2, vi push), (3, vi lean), (4, vi hour)]) ok dX5_next_32 (by decide) rfl rfl ?_
      refine g_iload (n := 36) ok 0 dX5_next_34 rfl rfl ?_
      refine g_if_eq (n := 39) (tgt := 46) ok dX5_next_36 (by decide) rfl (fun c4 => ?_) (fun c4 => ?_)
      · rw [if_pos c4]
        refine g_aload_n (n := 47) ok 1 dX5_next_46 rfl rfl rfl ?_
        refine g_get (n := 50) (v := vr 37) (c := 5) (k := 4) ok dX5_next_47 clsX5 (by decide) q158 rfl rfl rfl ?_
        refine g_aload_n (n := 51) ok 1 dX5_next_50 rfl rfl rfl ?_
        refine g_get (n := 54) (v := vr 1) (c := 5) (k := 0) ok dX5_next_51 clsX5 (by decide) q154 rfl rfl rfl ?_
        refine g_get (n := 57) (v := vi (I 1 3)) (c := 3) (k := 3) ok dX5_next_54 clsX3 (by decide) q73 rfl rfl rfl ?_
        refine g_iload_n (n := 58) ok 2 dX5_next_57 rfl rfl rfl ?_
        refine g_iload_n (n := 59) ok 3 dX5_next_58 rfl rfl rfl ?_
        refine g_iload_n (n := 60) ok 4 dX5_next_59 rfl rfl rfl ?_
        refine g_callV (n := 63) (rest := []) (av := [vi (I 1 3), vi (nI (ix foot)), vi push, vi lean]) (j := 37) ok (kX1_nextBy I (I 1 3) (ix foot) push lean (by first | with_reducible assumption | omega) (by first | with_reducible assumption | omega)) knX1_nextBy q460 q461 q462 clsX1 rfl dX5_next_60 (lcons rfl (lcons rfl (lcons (congrArg vi (vx ha2)) (lcons rfl (lcons rfl rfl))))) rfl (Nat.le_of_ble_eq_true rfl) (by decide) (by decide) rfl ?_
        have hT5 := nextBy_tr (I := I) (kind := (I 1 3)) (push := push) (lean := lean) (foot := (ix foot)) (by omega)
        refine g_astore (n := 65) (lv' := [(6, vr ((fX1_nextBy I (I 1 3) (ix foot) push lean).1)), (5, vi (fX5_strokeFault push lean)), (0, vr 0), (1, vi foot), (2, vi push), (3, vi lean), (4, vi hour)]) ok dX5_next_63 (by decide) rfl rfl ?_
        refine g_iload (n := 67) ok 6 dX5_next_65 rfl rfl ?_
        refine g_iconst (n := 68) (v := -1) ok dX5_next_67 rfl rfl ?_
        refine g_icmp_ne (n := 71) (tgt := 83) ok dX5_next_68 (by decide) rfl (fun c6 => ?_) (fun c6 => ?_)
        · exact absurd c3 c6
        · refine g_aload_n (n := 72) ok 2 dX5_next_71 rfl rfl rfl ?_
          refine g_get (n := 75) (v := vr 1) (c := 5) (k := 0) ok dX5_next_72 clsX5 (by decide) q154 rfl rfl rfl ?_
          refine g_aload (n := 77) ok 0 dX5_next_75 rfl rfl ?_
          refine g_callV (n := 80) (rest := []) (av := [vr ((fX1_nextBy I (I 1 3) (ix foot) push lean).1)]) (j := 1) ok (kX3_offOf ((fX1_nextBy I (I 1 3) (ix foot) push lean).2) ((fX1_nextBy I (I 1 3) (ix foot) push lean).1) hT5) knX3_offOf q392 q393 q394 clsX3 rfl dX5_next_77 rfl rfl (Nat.le_of_ble_eq_true rfl) (by decide) (by decide) rfl ?_
          refine g_goto (tgt := 91) ok dX5_next_80 (by decide) ?_
          exact g_iret ok hr dX5_next_91
      · rw [if_neg c4]
        refine g_aload_n (n := 40) ok 1 dX5_next_39 rfl rfl rfl ?_
        refine g_iload (n := 42) ok 0 dX5_next_40 rfl rfl ?_
        refine g_callV (n := 45) (rest := []) (av := [vi (fX5_strokeFault push lean)]) (j := 0) ok (kX5_refuse I (fX5_strokeFault push lean)) knX5_refuse q189 q191 qs0 clsX5 rfl dX5_next_42 rfl rfl (Nat.le_of_ble_eq_true rfl) (by decide) (by decide) rfl ?_
        exact g_iret ok hr dX5_next_45
    · rw [if_neg c3]
      refine g_iload (n := 15) ok 4 dX5_next_13 rfl rfl ?_
      refine g_callS (n := 18) (rest := []) (av := [vi hour]) ok (kX5_isHour I hour) knX5_isHour q266 q267 dX5_next_15 rfl rfl (Nat.le_of_ble_eq_true rfl) (by decide) (by decide) rfl ?_
      refine g_if_ne (n := 21) (tgt := 27) ok dX5_next_18 (by decide) rfl (fun c7 => ?_) (fun c7 => ?_)
      · rw [if_neg c7]
        have ha8 : vp_in hour 12 := isHour_in c7
        have ha8b := vb ha8
        refine g_iload_n (n := 28) ok 2 dX5_next_27 rfl rfl rfl ?_
        refine g_iload_n (n := 29) ok 3 dX5_next_28 rfl rfl rfl ?_
        refine g_callS (n := 32) (rest := []) (av := [vi push, vi lean]) ok (kX5_strokeFault I push lean) knX5_strokeFault q360 q271 dX5_next_29 rfl rfl (Nat.le_of_ble_eq_true rfl) (by decide) (by decide) rfl ?_
        refine g_istore (n := 34) (lv' := [(5, vi (fX5_strokeFault push lean)), (0, vr 0), (1, vi foot), (2, vi push), (3, vi lean), (4, vi hour)]) ok dX5_next_32 (by decide) rfl rfl ?_
        refine g_iload (n := 36) ok 0 dX5_next_34 rfl rfl ?_
        refine g_if_eq (n := 39) (tgt := 46) ok dX5_next_36 (by decide) rfl (fun c9 => ?_) (fun c9 => ?_)
        · rw [if_pos c9]
          refine g_aload_n (n := 47) ok 1 dX5_next_46 rfl rfl rfl ?_
          refine g_get (n := 50) (v := vr 37) (c := 5) (k := 4) ok dX5_next_47 clsX5 (by decide) q158 rfl rfl rfl ?_
          refine g_aload_n (n := 51) ok 1 dX5_next_50 rfl rfl rfl ?_
          refine g_get (n := 54) (v := vr 1) (c := 5) (k := 0) ok dX5_next_51 clsX5 (by decide) q154 rfl rfl rfl ?_
          refine g_get (n := 57) (v := vi (I 1 3)) (c := 3) (k := 3) ok dX5_next_54 clsX3 (by decide) q73 rfl rfl rfl ?_
          refine g_iload_n (n := 58) ok 2 dX5_next_57 rfl rfl rfl ?_
          refine g_iload_n (n := 59) ok 3 dX5_next_58 rfl rfl rfl ?_
          refine g_iload_n (n := 60) ok 4 dX5_next_59 rfl rfl rfl ?_
          refine g_callV (n := 63) (rest := []) (av := [vi (I 1 3), vi (nI (ix foot)), vi push, vi lean]) (j := 37) ok (kX1_nextBy I (I 1 3) (ix foot) push lean (by first | with_reducible assumption | omega) (by first | with_reducible assumption | omega)) knX1_nextBy q460 q461 q462 clsX1 rfl dX5_next_60 (lcons rfl (lcons rfl (lcons (congrArg vi (vx ha2)) (lcons rfl (lcons rfl rfl))))) rfl (Nat.le_of_ble_eq_true rfl) (by decide) (by decide) rfl ?_
          have hT10 := nextBy_tr (I := I) (kind := (I 1 3)) (push := push) (lean := lean) (foot := (ix foot)) (by omega)
          refine g_astore (n := 65) (lv' := [(6, vr ((fX1_nextBy I (I 1 3) (ix foot) push lean).1)), (5, vi (fX5_strokeFault push lean)), (0, vr 0), (1, vi foot), (2, vi push), (3, vi lean), (4, vi hour)]) ok dX5_next_63 (by decide) rfl rfl ?_
          refine g_iload (n := 67) ok 6 dX5_next_65 rfl rfl ?_
          refine g_iconst (n := 68) (v := -1) ok dX5_next_67 rfl rfl ?_
          refine g_icmp_ne (n := 71) (tgt := 83) ok dX5_next_68 (by decide) rfl (fun c11 => ?_) (fun c11 => ?_)
          · refine g_aload (n := 85) ok 0 dX5_next_83 rfl rfl ?_
            refine g_get (n := 88) (v := vr ((fX1_nextBy I (I 1 3) (ix foot) push lean).1 + 1)) (c := 4) (k := 3) ok dX5_next_85 clsX4 (by decide) q50 hT10.1 rfl rfl ?_
            refine g_iload (n := 90) ok 6 dX5_next_88 rfl rfl ?_
            refine g_iald (n := 91) (i := ix hour) (L := 12) ok dX5_next_90 hT10.2.1 hT10.2.2 (vx ha8) (by omega) rfl ?_
            exact g_iret ok hr dX5_next_91
          · exact absurd c11 c3
        · rw [if_neg c9]
          refine g_aload_n (n := 40) ok 1 dX5_next_39 rfl rfl rfl ?_
          refine g_iload (n := 42) ok 0 dX5_next_40 rfl rfl ?_
          refine g_callV (n := 45) (rest := []) (av := [vi (fX5_strokeFault push lean)]) (j := 0) ok (kX5_refuse I (fX5_strokeFault push lean)) knX5_refuse q189 q191 qs0 clsX5 rfl dX5_next_42 rfl rfl (Nat.le_of_ble_eq_true rfl) (by decide) (by decide) rfl ?_
          exact g_iret ok hr dX5_next_45
      · rw [if_pos c7]
        refine g_aload_n (n := 22) ok 0 dX5_next_21 rfl rfl rfl ?_
        refine g_iconst (n := 23) (v := -1) ok dX5_next_22 rfl rfl ?_
        refine g_callV (n := 26) (rest := []) (av := [vi (-1)]) (j := 0) ok (kX5_refuse I (-1)) knX5_refuse q189 q191 qs0 clsX5 rfl dX5_next_23 rfl rfl (Nat.le_of_ble_eq_true rfl) (by decide) (by decide) rfl ?_
        exact g_iret ok hr dX5_next_26

noncomputable def fX5_grows (I : HI) (foot : Int32) (push : Int32) (lean : Int32) (kind : Int32) (n : Int32) : Int32 × HI :=
  if fX5_isFoot foot = 0 then (1000000000 - ((fX5_refuse I (-1)).1), ((fX5_refuse I (-1)).2)) else (if fX5_within kind 0 6 = 0 then (1000000000 - ((fX5_refuse I (-2)).1), ((fX5_refuse I (-2)).2)) else (if fX5_growthFault push lean n = 0 then ((fX1_growth I kind (ix foot) push lean (ix n)).1, ((fX1_growth I kind (ix foot) push lean (ix n)).2)) else (1000000000 - ((fX5_refuse I (fX5_growthFault push lean n)).1), ((fX5_refuse I (fX5_growthFault push lean n)).2))))
theorem knX5_grows : Kn yX5_grows cX5_grows 7 (some .int) 5 := ⟨q474, q1, ⟨by decide, by decide⟩, by decide +kernel⟩
set_option maxHeartbeats 400000 in
set_option maxRecDepth 100000 in
theorem kX5_grows (I : HI) (foot : Int32) (push : Int32) (lean : Int32) (kind : Int32) (n : Int32) (hd : vp_in (I 1 6) 7) : Cx yX5_grows cX5_grows 7 (some .int) 6 153 [vr 0, vi foot, vi push, vi lean, vi kind, vi n] I ((some (vi (((fX5_grows I foot push lean kind n).1))), (fX5_grows I foot push lean kind n).2)) := by
  refine Cx.mk (lv := [(0, vr 0), (1, vi foot), (2, vi push), (3, vi lean), (4, vi kind), (5, vi n)]) (by decide) (Nat.le_of_ble_eq_true rfl) rfl (fun E ok hr => ?_)
  rw [fX5_grows]
  refine g_iload_n (n := 1) ok 2 dX5_grows_0 rfl rfl rfl ?_
  refine g_iload_n (n := 2) ok 3 dX5_grows_1 rfl rfl rfl ?_
  refine g_iload (n := 4) ok 5 dX5_grows_2 rfl rfl ?_
  refine g_callS (n := 7) (rest := []) (av := [vi push, vi lean, vi n]) ok (kX5_growthFault I push lean n) knX5_growthFault q475 q476 dX5_grows_4 rfl rfl (Nat.le_of_ble_eq_true rfl) (by decide) (by decide) rfl ?_
  refine g_istore (n := 9) (lv' := [(6, vi (fX5_growthFault push lean n)), (0, vr 0), (1, vi foot), (2, vi push), (3, vi lean), (4, vi kind), (5, vi n)]) ok dX5_grows_7 (by decide) rfl rfl ?_
  refine g_iload_n (n := 10) ok 2 dX5_grows_9 rfl rfl rfl ?_
  refine g_callS (n := 13) (rest := []) (av := [vi foot]) ok (kX5_isFoot I foot) knX5_isFoot q263 q264 dX5_grows_10 rfl rfl (Nat.le_of_ble_eq_true rfl) (by decide) (by decide) rfl ?_
  refine g_if_ne (n := 16) (tgt := 22) ok dX5_grows_13 (by decide) rfl (fun c1 => ?_) (fun c1 => ?_)
  · rw [if_neg c1]
    have ha2 : vp_in foot 2 := isFoot_in c1
    have ha2b := vb ha2
    refine g_iload (n := 24) ok 5 dX5_grows_22 rfl rfl ?_
    refine g_iconst (n := 25) (v := 0) ok dX5_grows_24 rfl rfl ?_
    refine g_bipush (n := 27) (v := 6) ok dX5_grows_25 rfl rfl ?_
    refine g_callS (n := 30) (rest := []) (av := [vi kind, vi 0, vi 6]) ok (kX5_within I kind 0 6) knX5_within q193 q194 dX5_grows_27 rfl rfl (Nat.le_of_ble_eq_true rfl) (by decide) (by decide) rfl ?_
    refine g_if_ne (n := 33) (tgt := 37) ok dX5_grows_30 (by decide) rfl (fun c3 => ?_) (fun c3 => ?_)
    · rw [if_neg c3]
      have ha4 : vp_in kind 7 := within_in (b := 6) c3 (by omega)
      have ha4b := vb ha4
      refine g_iload (n := 39) ok 0 dX5_grows_37 rfl rfl ?_
      refine g_if_eq (n := 42) (tgt := 52) ok dX5_grows_39 (by decide) rfl (fun c5 => ?_) (fun c5 => ?_)
      · rw [if_pos c5]
        have ha6 : vp_in n 10 := growthFault_in c5
        have ha6b := vb ha6
        have hx7 := growthFault_ge c5
        refine g_aload_n (n := 53) ok 1 dX5_grows_52 rfl rfl rfl ?_
        refine g_get (n := 56) (v := vr 37) (c := 5) (k := 4) ok dX5_grows_53 clsX5 (by decide) q158 rfl rfl rfl ?_
        refine g_iload (n := 58) ok 5 dX5_grows_56 rfl rfl ?_
        refine g_iload_n (n := 59) ok 2 dX5_grows_58 rfl rfl rfl ?_
        refine g_iload_n (n := 60) ok 3 dX5_grows_59 rfl rfl rfl ?_
        refine g_iload_n (n := 61) ok 4 dX5_grows_60 rfl rfl rfl ?_
        refine g_iload (n := 63) ok 6 dX5_grows_61 rfl rfl ?_
        refine g_callV (n := 66) (rest := []) (av := [vi kind, vi (nI (ix foot)), vi push, vi lean, vi (nI (ix n))]) (j := 37) ok (kX1_growth I kind (ix foot) push lean (ix n) (by first | with_reducible assumption | omega) (by first | with_reducible assumption | omega) (by first | with_reducible assumption | omega) (by first | with_reducible assumption | omega)) knX1_growth q479 q480 q481 clsX1 rfl dX5_grows_63 (lcons (congrArg vi (vx ha6)) (lcons rfl (lcons rfl (lcons (congrArg vi (vx ha2)) (lcons rfl (lcons rfl rfl)))))) rfl (Nat.le_of_ble_eq_true rfl) (by decide) (by decide) rfl ?_
        exact g_iret ok hr dX5_grows_66
      · rw [if_neg c5]
        refine g_ldc (n := 44) ok dX5_grows_42 q478 rfl ?_
        refine g_aload_n (n := 45) ok 1 dX5_grows_44 rfl rfl rfl ?_
        refine g_iload (n := 47) ok 0 dX5_grows_45 rfl rfl ?_
        refine g_callV (n := 50) (rest := [vi 1000000000]) (av := [vi (fX5_growthFault push lean n)]) (j := 0) ok (kX5_refuse I (fX5_growthFault push lean n)) knX5_refuse q189 q191 qs0 clsX5 rfl dX5_grows_47 rfl rfl (Nat.le_of_ble_eq_true rfl) (by decide) (by decide) rfl ?_
        refine g_isub (n := 51) ok dX5_grows_50 rfl ?_
        exact g_iret ok hr dX5_grows_51
    · rw [if_pos c3]
      refine g_bipush (n := 35) (v := -2) ok dX5_grows_33 rfl rfl ?_
      refine g_istore (n := 37) (lv' := [(6, vi (-2)), (0, vr 0), (1, vi foot), (2, vi push), (3, vi lean), (4, vi kind), (5, vi n)]) ok dX5_grows_35 (by decide) rfl rfl ?_
      refine g_iload (n := 39) ok 0 dX5_grows_37 rfl rfl ?_
      refine g_if_eq (n := 42) (tgt := 52) ok dX5_grows_39 (by decide) rfl (fun c8 => ?_) (fun c8 => ?_)
      · exact absurd c8 (by decide)
      · refine g_ldc (n := 44) ok dX5_grows_42 q478 rfl ?_
        refine g_aload_n (n := 45) ok 1 dX5_grows_44 rfl rfl rfl ?_
        refine g_iload (n := 47) ok 0 dX5_grows_45 rfl rfl ?_
        refine g_callV (n := 50) (rest := [vi 1000000000]) (av := [vi (-2)]) (j := 0) ok (kX5_refuse I (-2)) knX5_refuse q189 q191 qs0 clsX5 rfl dX5_grows_47 rfl rfl (Nat.le_of_ble_eq_true rfl) (by decide) (by decide) rfl ?_
        refine g_isub (n := 51) ok dX5_grows_50 rfl ?_
        exact g_iret ok hr dX5_grows_51
  · rw [if_pos c1]
    refine g_iconst (n := 17) (v := -1) ok dX5_grows_16 rfl rfl ?_
    refine g_istore (n := 19) (lv' := [(6, vi (-1)), (0, vr 0), (1, vi foot), (2, vi push), (3, vi lean), (4, vi kind), (5, vi n)]) ok dX5_grows_17 (by decide) rfl rfl ?_
    refine g_goto (tgt := 37) ok dX5_grows_19 (by decide) ?_
    refine g_iload (n := 39) ok 0 dX5_grows_37 rfl rfl ?_
    refine g_if_eq (n := 42) (tgt := 52) ok dX5_grows_39 (by decide) rfl (fun c9 => ?_) (fun c9 => ?_)
    · exact absurd c9 (by decide)
    · refine g_ldc (n := 44) ok dX5_grows_42 q478 rfl ?_
      refine g_aload_n (n := 45) ok 1 dX5_grows_44 rfl rfl rfl ?_
      refine g_iload (n := 47) ok 0 dX5_grows_45 rfl rfl ?_
      refine g_callV (n := 50) (rest := [vi 1000000000]) (av := [vi (-1)]) (j := 0) ok (kX5_refuse I (-1)) knX5_refuse q189 q191 qs0 clsX5 rfl dX5_grows_47 rfl rfl (Nat.le_of_ble_eq_true rfl) (by decide) (by decide) rfl ?_
      refine g_isub (n := 51) ok dX5_grows_50 rfl ?_
      exact g_iret ok hr dX5_grows_51

noncomputable def fX5_calm_x38 (x38_6 : Int32) (J38 : HI) : Int32 × HI :=
  (x38_6, J38)
noncomputable def fX5_calm_b38 (foot : Int32) (push : Int32) (lean : Int32) (n : Int32) (i38 : Nat) (x38_6 : Int32) (J38 : HI) : Int32 × HI :=
  if 0 < (fX1_growth J38 (nI i38) (ix foot) push lean (ix n)).1 then (x38_6, ((fX1_growth J38 (nI i38) (ix foot) push lean (ix n)).2)) else (x38_6 ||| (1 <<< ((nI i38) &&& 31)), ((fX1_growth J38 (nI i38) (ix foot) push lean (ix n)).2))
noncomputable def fX5_calm (I : HI) (foot : Int32) (push : Int32) (lean : Int32) (n : Int32) : Int32 × HI :=
  if fX5_isFoot foot = 0 then ((fX5_refuse I (-1)).1, ((fX5_refuse I (-1)).2)) else (if fX5_growthFault push lean n = 0 then (fun (s : Int32 × HI) => fX5_calm_x38 s.1 s.2) (fo 7 0 (fun (i : Nat) (s : Int32 × HI) => fX5_calm_b38 foot push lean n i s.1 s.2) (0, I)) else ((fX5_refuse I (fX5_growthFault push lean n)).1, ((fX5_refuse I (fX5_growthFault push lean n)).2)))
theorem knX5_calm : Kn yX5_calm cX5_calm 8 (some .int) 4 := ⟨q491, q1, ⟨by decide, by decide⟩, by decide +kernel⟩
set_option maxHeartbeats 400000 in
set_option maxRecDepth 100000 in
theorem kX5_calm (I : HI) (foot : Int32) (push : Int32) (lean : Int32) (n : Int32) (hd : vp_in (I 1 6) 7) : Cx yX5_calm cX5_calm 8 (some .int) 6 153 [vr 0, vi foot, vi push, vi lean, vi n] I ((some (vi (((fX5_calm I foot push lean n).1))), (fX5_calm I foot push lean n).2)) := by
  refine Cx.mk (lv := [(0, vr 0), (1, vi foot), (2, vi push), (3, vi lean), (4, vi n)]) (by decide) (Nat.le_of_ble_eq_true rfl) rfl (fun E ok hr => ?_)
  rw [fX5_calm]
  refine g_iload_n (n := 1) ok 1 dX5_calm_0 rfl rfl rfl ?_
  refine g_callS (n := 4) (rest := []) (av := [vi foot]) ok (kX5_isFoot I foot) knX5_isFoot q263 q264 dX5_calm_1 rfl rfl (Nat.le_of_ble_eq_true rfl) (by decide) (by decide) rfl ?_
  refine g_if_eq (n := 7) (tgt := 17) ok dX5_calm_4 (by decide) rfl (fun c1 => ?_) (fun c1 => ?_)
  · rw [if_pos c1]
    refine g_iconst (n := 18) (v := -1) ok dX5_calm_17 rfl rfl ?_
    refine g_istore (n := 20) (lv' := [(5, vi (-1)), (0, vr 0), (1, vi foot), (2, vi push), (3, vi lean), (4, vi n)]) ok dX5_calm_18 (by decide) rfl rfl ?_
    refine g_iload (n := 22) ok 0 dX5_calm_20 rfl rfl ?_
    refine g_if_eq (n := 25) (tgt := 32) ok dX5_calm_22 (by decide) rfl (fun c2 => ?_) (fun c2 => ?_)
    · exact absurd c2 (by decide)
    · refine g_aload_n (n := 26) ok 1 dX5_calm_25 rfl rfl rfl ?_
      refine g_iload (n := 28) ok 0 dX5_calm_26 rfl rfl ?_
      refine g_callV (n := 31) (rest := []) (av := [vi (-1)]) (j := 0) ok (kX5_refuse I (-1)) knX5_refuse q189 q191 qs0 clsX5 rfl dX5_calm_28 rfl rfl (Nat.le_of_ble_eq_true rfl) (by decide) (by decide) rfl ?_
      exact g_iret ok hr dX5_calm_31
  · rw [if_neg c1]
    have ha3 : vp_in foot 2 := isFoot_in c1
    have ha3b := vb ha3
    refine g_iload_n (n := 8) ok 2 dX5_calm_7 rfl rfl rfl ?_
    refine g_iload_n (n := 9) ok 3 dX5_calm_8 rfl rfl rfl ?_
    refine g_iload (n := 11) ok 4 dX5_calm_9 rfl rfl ?_
    refine g_callS (n := 14) (rest := []) (av := [vi push, vi lean, vi n]) ok (kX5_growthFault I push lean n) knX5_growthFault q475 q476 dX5_calm_11 rfl rfl (Nat.le_of_ble_eq_true rfl) (by decide) (by decide) rfl ?_
    refine g_goto (tgt := 18) ok dX5_calm_14 (by decide) ?_
    refine g_istore (n := 20) (lv' := [(5, vi (fX5_growthFault push lean n)), (0, vr 0), (1, vi foot), (2, vi push), (3, vi lean), (4, vi n)]) ok dX5_calm_18 (by decide) rfl rfl ?_
    refine g_iload (n := 22) ok 0 dX5_calm_20 rfl rfl ?_
    refine g_if_eq (n := 25) (tgt := 32) ok dX5_calm_22 (by decide) rfl (fun c4 => ?_) (fun c4 => ?_)
    · rw [if_pos c4]
      have ha5 : vp_in n 10 := growthFault_in c4
      have ha5b := vb ha5
      have hx6 := growthFault_ge c4
      refine g_iconst (n := 33) (v := 0) ok dX5_calm_32 rfl rfl ?_
      refine g_istore (n := 35) (lv' := [(6, vi 0), (5, vi (fX5_growthFault push lean n)), (0, vr 0), (1, vi foot), (2, vi push), (3, vi lean), (4, vi n)]) ok dX5_calm_33 (by decide) rfl rfl ?_
      refine g_iconst (n := 36) (v := 0) ok dX5_calm_35 rfl rfl ?_
      refine g_istore (n := 38) (lv' := [(7, vi 0), (6, vi 0), (5, vi (fX5_growthFault push lean n)), (0, vr 0), (1, vi foot), (2, vi push), (3, vi lean), (4, vi n)]) ok dX5_calm_36 (by decide) rfl rfl ?_
      have X38 : ∀ (x38_6 : Int32) (J38 : HI) (hd2 : vp_in (J38 1 6) 7), G E 8 ((some (vi (((fX5_calm_x38 x38_6 J38).1))), (fX5_calm_x38 x38_6 J38).2)) J38 77 [(6, vi x38_6)] [] := by
        intro x38_6 J38 hd2
        rw [fX5_calm_x38]
        refine g_iload (n := 79) ok 0 dX5_calm_77 rfl rfl ?_
        exact g_iret ok hr dX5_calm_79
      have L38 : ∀ (n38 i38 : Nat) (x38_6 : Int32) (J38 : HI) (hd2 : vp_in (J38 1 6) 7) (hi : i38 + n38 = 7), G E 8 ((some (vi ((((fun (s : Int32 × HI) => fX5_calm_x38 s.1 s.2) (fo n38 i38 (fun (i : Nat) (s : Int32 × HI) => fX5_calm_b38 foot push lean n i s.1 s.2) (x38_6, J38))).1))), ((fun (s : Int32 × HI) => fX5_calm_x38 s.1 s.2) (fo n38 i38 (fun (i : Nat) (s : Int32 × HI) => fX5_calm_b38 foot push lean n i s.1 s.2) (x38_6, J38))).2)) J38 38 [(7, vi (nI i38)), (6, vi x38_6), (0, vr 0), (1, vi foot), (2, vi push), (3, vi lean), (4, vi n)] [] := by
        intro n38
        induction n38 with
        | zero =>
          intro i38 x38_6 J38 hd2 hi
          rw [fo_0]
          refine g_iload (n := 40) ok 0 dX5_calm_38 rfl rfl ?_
          refine g_bipush (n := 42) (v := 7) ok dX5_calm_40 rfl rfl ?_
          refine g_icmp_ge (n := 45) (tgt := 77) ok dX5_calm_42 (by decide) rfl (fun c => ?_) (fun c => absurd (nle (a := 7) (b := i38) rfl rfl (by omega) (by omega)) c)
          refine g_sub [1] rfl ?_
          exact X38 _ _ hd2
        | succ n38 ih =>
          intro i38 x38_6 J38 hd2 hi
          refine g_iload (n := 40) ok 0 dX5_calm_38 rfl rfl ?_
          refine g_bipush (n := 42) (v := 7) ok dX5_calm_40 rfl rfl ?_
          refine g_icmp_ge (n := 45) (tgt := 77) ok dX5_calm_42 (by decide) rfl (fun c => absurd c (nnle (a := 7) (b := i38) rfl rfl (by omega) (by omega))) (fun c => ?_)
          rw [fo_s]
          show G E 8 ((some (vi ((((fun (s : Int32 × HI) => fX5_calm_x38 s.1 s.2) (fo n38 (i38 + 1) (fun (i : Nat) (s : Int32 × HI) => fX5_calm_b38 foot push lean n i s.1 s.2) (fX5_calm_b38 foot push lean n i38 x38_6 J38))).1))), ((fun (s : Int32 × HI) => fX5_calm_x38 s.1 s.2) (fo n38 (i38 + 1) (fun (i : Nat) (s : Int32 × HI) => fX5_calm_b38 foot push lean n i s.1 s.2) (fX5_calm_b38 foot push lean n i38 x38_6 J38))).2)) _ _ _ _
          rw [fX5_calm_b38]
          refine g_aload_n (n := 46) ok 2 dX5_calm_45 rfl rfl rfl ?_
          refine g_get (n := 49) (v := vr 37) (c := 5) (k := 4) ok dX5_calm_46 clsX5 (by decide) q158 rfl rfl rfl ?_
          refine g_iload (n := 51) ok 0 dX5_calm_49 rfl rfl ?_
          refine g_iload_n (n := 52) ok 3 dX5_calm_51 rfl rfl rfl ?_
          refine g_iload_n (n := 53) ok 4 dX5_calm_52 rfl rfl rfl ?_
          refine g_iload_n (n := 54) ok 5 dX5_calm_53 rfl rfl rfl ?_
          refine g_iload (n := 56) ok 6 dX5_calm_54 rfl rfl ?_
          refine g_callV (n := 59) (rest := []) (av := [vi (nI i38), vi (nI (ix foot)), vi push, vi lean, vi (nI (ix n))]) (j := 37) ok (kX1_growth J38 (nI i38) (ix foot) push lean (ix n) hd2 (by first | with_reducible assumption | omega) (by first | with_reducible assumption | omega) (by first | with_reducible assumption | omega)) knX1_growth q479 q480 q481 clsX1 rfl dX5_calm_56 (lcons (congrArg vi (vx ha5)) (lcons rfl (lcons rfl (lcons (congrArg vi (vx ha3)) (lcons rfl (lcons rfl rfl)))))) rfl (Nat.le_of_ble_eq_true rfl) (by decide) (by decide) rfl ?_
          refine g_if_gt (n := 62) (tgt := 71) ok dX5_calm_59 (by decide) rfl (fun c7 => ?_) (fun c7 => ?_)
          · rw [if_pos c7]
            refine g_iinc (n := 74) (v := nI (i38 + 1)) (lv' := [(7, vi (nI (i38 + 1))), (6, vi x38_6), (0, vr 0), (1, vi foot), (2, vi push), (3, vi lean), (4, vi n)]) ok 0 dX5_calm_71 rfl (iinc_n (a := i38) rfl) (by decide) rfl rfl ?_
            refine g_goto (tgt := 38) ok dX5_calm_74 (by decide) ?_
            exact ih (i38 + 1) x38_6 _ (by rw [growth_ne (by omega)]; exact hd2) (by omega)
          · rw [if_neg c7]
            refine g_iload (n := 64) ok 1 dX5_calm_62 rfl rfl ?_
            refine g_iconst (n := 65) (v := 1) ok dX5_calm_64 rfl rfl ?_
            refine g_iload (n := 67) ok 0 dX5_calm_65 rfl rfl ?_
            refine g_ishl (n := 68) ok dX5_calm_67 rfl ?_
            refine g_ior (n := 69) ok dX5_calm_68 rfl ?_
            refine g_istore (n := 71) (lv' := [(6, vi (x38_6 ||| (1 <<< ((nI i38) &&& 31)))), (7, vi (nI i38)), (0, vr 0), (1, vi foot), (2, vi push), (3, vi lean), (4, vi n)]) ok dX5_calm_69 (by decide) rfl rfl ?_
            refine g_iinc (n := 74) (v := nI (i38 + 1)) (lv' := [(7, vi (nI (i38 + 1))), (6, vi (x38_6 ||| (1 <<< ((nI i38) &&& 31)))), (0, vr 0), (1, vi foot), (2, vi push), (3, vi lean), (4, vi n)]) ok 1 dX5_calm_71 rfl (iinc_n (a := i38) rfl) (by decide) rfl rfl ?_
            refine g_goto (tgt := 38) ok dX5_calm_74 (by decide) ?_
            exact ih (i38 + 1) (x38_6 ||| (1 <<< ((nI i38) &&& 31))) _ (by rw [growth_ne (by omega)]; exact hd2) (by omega)
      refine g_sub [0, 1, 3, 4, 5, 6, 7] rfl ?_
      exact L38 7 0 0 _ hd (by omega)
    · rw [if_neg c4]
      refine g_aload_n (n := 26) ok 1 dX5_calm_25 rfl rfl rfl ?_
      refine g_iload (n := 28) ok 0 dX5_calm_26 rfl rfl ?_
      refine g_callV (n := 31) (rest := []) (av := [vi (fX5_growthFault push lean n)]) (j := 0) ok (kX5_refuse I (fX5_growthFault push lean n)) knX5_refuse q189 q191 qs0 clsX5 rfl dX5_calm_28 rfl rfl (Nat.le_of_ble_eq_true rfl) (by decide) (by decide) rfl ?_
      exact g_iret ok hr dX5_calm_31

noncomputable def fX5_closes (I : HI) (foot : Int32) : Int32 × HI :=
  if fX5_isFoot foot = 0 then ((fX5_refuse I (-1)).1, ((fX5_refuse I (-1)).2)) else ((fX1_bestClosing I (ix foot)).1, ((fX1_bestClosing I (ix foot)).2))
theorem knX5_closes : Kn yX5_closes cX5_closes 2 (some .int) 1 := ⟨q495, q1, ⟨by decide, by decide⟩, by decide +kernel⟩
set_option maxHeartbeats 400000 in
set_option maxRecDepth 100000 in
theorem kX5_closes (I : HI) (foot : Int32) (hd : vp_in (I 1 6) 7) : Cx yX5_closes cX5_closes 2 (some .int) 6 155 [vr 0, vi foot] I ((some (vi (((fX5_closes I foot).1))), (fX5_closes I foot).2)) := by
  refine Cx.mk (lv := [(0, vr 0), (1, vi foot)]) (by decide) (Nat.le_of_ble_eq_true rfl) rfl (fun E ok hr => ?_)
  rw [fX5_closes]
  refine g_iload_n (n := 1) ok 1 dX5_closes_0 rfl rfl rfl ?_
  refine g_callS (n := 4) (rest := []) (av := [vi foot]) ok (kX5_isFoot I foot) knX5_isFoot q263 q264 dX5_closes_1 rfl rfl (Nat.le_of_ble_eq_true rfl) (by decide) (by decide) rfl ?_
  refine g_if_eq (n := 7) (tgt := 18) ok dX5_closes_4 (by decide) rfl (fun c1 => ?_) (fun c1 => ?_)
  · rw [if_pos c1]
    refine g_aload_n (n := 19) ok 0 dX5_closes_18 rfl rfl rfl ?_
    refine g_iconst (n := 20) (v := -1) ok dX5_closes_19 rfl rfl ?_
    refine g_callV (n := 23) (rest := []) (av := [vi (-1)]) (j := 0) ok (kX5_refuse I (-1)) knX5_refuse q189 q191 qs0 clsX5 rfl dX5_closes_20 rfl rfl (Nat.le_of_ble_eq_true rfl) (by decide) (by decide) rfl ?_
    exact g_iret ok hr dX5_closes_23
  · rw [if_neg c1]
    have ha2 : vp_in foot 2 := isFoot_in c1
    have ha2b := vb ha2
    refine g_aload_n (n := 8) ok 0 dX5_closes_7 rfl rfl rfl ?_
    refine g_get (n := 11) (v := vr 37) (c := 5) (k := 4) ok dX5_closes_8 clsX5 (by decide) q158 rfl rfl rfl ?_
    refine g_iload_n (n := 12) ok 1 dX5_closes_11 rfl rfl rfl ?_
    refine g_callV (n := 15) (rest := []) (av := [vi (nI (ix foot))]) (j := 37) ok (kX1_bestClosing I (ix foot) (by first | with_reducible assumption | omega) (by first | with_reducible assumption | omega)) knX1_bestClosing q496 q497 q498 clsX1 rfl dX5_closes_12 (lcons (congrArg vi (vx ha2)) (lcons rfl rfl)) rfl (Nat.le_of_ble_eq_true rfl) (by decide) (by decide) rfl ?_
    refine g_goto (tgt := 23) ok dX5_closes_15 (by decide) ?_
    exact g_iret ok hr dX5_closes_23

noncomputable def fX5_correct (I : HI) (foot : Int32) (push : Int32) (lean : Int32) : Int32 × HI :=
  if fX5_footAndStrokeFault foot push lean = 0 then (if (fX1_nextOff ((fX1_nextOff I 2 (ix foot) push lean).2) 0 (ix foot) push lean).1 ≤ (fX1_nextOff I 2 (ix foot) push lean).1 then (0, ((fX1_nextOff ((fX1_nextOff I 2 (ix foot) push lean).2) 0 (ix foot) push lean).2)) else (1, ((fX1_nextOff ((fX1_nextOff I 2 (ix foot) push lean).2) 0 (ix foot) push lean).2))) else ((fX5_refuse I (fX5_footAndStrokeFault foot push lean)).1, ((fX5_refuse I (fX5_footAndStrokeFault foot push lean)).2))
theorem knX5_correct : Kn yX5_correct cX5_correct 6 (some .int) 3 := ⟨q504, q1, ⟨by decide, by decide⟩, by decide +kernel⟩
set_option maxHeartbeats 400000 in
set_option maxRecDepth 100000 in
theorem kX5_correct (I : HI) (foot : Int32) (push : Int32) (lean : Int32) (hd : vp_in (I 1 6) 7) : Cx yX5_correct cX5_correct 6 (some .int) 6 149 [vr 0, vi foot, vi push, vi lean] I ((some (vi (((fX5_correct I foot push lean).1))), (fX5_correct I foot push lean).2)) := by
  refine Cx.mk (lv := [(0, vr 0), (1, vi foot), (2, vi push), (3, vi lean)]) (by decide) (Nat.le_of_ble_eq_true rfl) rfl (fun E ok hr => ?_)
  rw [fX5_correct]
  refine g_iload_n (n := 1) ok 1 dX5_correct_0 rfl rfl rfl ?_
  refine g_iload_n (n := 2) ok 2 dX5_correct_1 rfl rfl rfl ?_
  refine g_iload_n (n := 3) ok 3 dX5_correct_2 rfl rfl rfl ?_
  refine g_callS (n := 6) (rest := []) (av := [vi foot, vi push, vi lean]) ok (kX5_footAndStrokeFault I foot push lean) knX5_footAndStrokeFault q357 q358 dX5_correct_3 rfl rfl (Nat.le_of_ble_eq_true rfl) (by decide) (by decide) rfl ?_
  refine g_istore (n := 8) (lv' := [(4, vi (fX5_footAndStrokeFault foot push lean)), (0, vr 0), (1, vi foot), (2, vi push), (3, vi lean)]) ok dX5_correct_6 (by decide) rfl rfl ?_
  refine g_iload (n := 10) ok 0 dX5_correct_8 rfl rfl ?_
  refine g_if_eq (n := 13) (tgt := 20) ok dX5_correct_10 (by decide) rfl (fun c1 => ?_) (fun c1 => ?_)
  · rw [if_pos c1]
    have ha2 : vp_in foot 2 := footFault_in c1
    have ha2b := vb ha2
    refine g_aload_n (n := 21) ok 1 dX5_correct_20 rfl rfl rfl ?_
    refine g_get (n := 24) (v := vr 37) (c := 5) (k := 4) ok dX5_correct_21 clsX5 (by decide) q158 rfl rfl rfl ?_
    refine g_iconst (n := 25) (v := 2) ok dX5_correct_24 rfl rfl ?_
    refine g_iload_n (n := 26) ok 2 dX5_correct_25 rfl rfl rfl ?_
    refine g_iload_n (n := 27) ok 3 dX5_correct_26 rfl rfl rfl ?_
    refine g_iload_n (n := 28) ok 4 dX5_correct_27 rfl rfl rfl ?_
    refine g_callV (n := 31) (rest := []) (av := [vi 2, vi (nI (ix foot)), vi push, vi lean]) (j := 37) ok (kX1_nextOff I 2 (ix foot) push lean (by first | with_reducible assumption | omega) (by first | with_reducible assumption | omega)) knX1_nextOff q505 q506 q507 clsX1 rfl dX5_correct_28 (lcons rfl (lcons rfl (lcons (congrArg vi (vx ha2)) (lcons rfl (lcons rfl rfl))))) rfl (Nat.le_of_ble_eq_true rfl) (by decide) (by decide) rfl ?_
    refine g_istore (n := 33) (lv' := [(5, vi ((fX1_nextOff I 2 (ix foot) push lean).1)), (4, vi (fX5_footAndStrokeFault foot push lean)), (0, vr 0), (1, vi foot), (2, vi push), (3, vi lean)]) ok dX5_correct_31 (by decide) rfl rfl ?_
    refine g_iload (n := 35) ok 0 dX5_correct_33 rfl rfl ?_
    refine g_aload_n (n := 36) ok 2 dX5_correct_35 rfl rfl rfl ?_
    refine g_get (n := 39) (v := vr 37) (c := 5) (k := 4) ok dX5_correct_36 clsX5 (by decide) q158 rfl rfl rfl ?_
    refine g_iconst (n := 40) (v := 0) ok dX5_correct_39 rfl rfl ?_
    refine g_iload_n (n := 41) ok 3 dX5_correct_40 rfl rfl rfl ?_
    refine g_iload_n (n := 42) ok 4 dX5_correct_41 rfl rfl rfl ?_
    refine g_iload_n (n := 43) ok 5 dX5_correct_42 rfl rfl rfl ?_
    refine g_callV (n := 46) (rest := [vi ((fX1_nextOff I 2 (ix foot) push lean).1)]) (av := [vi 0, vi (nI (ix foot)), vi push, vi lean]) (j := 37) ok (kX1_nextOff ((fX1_nextOff I 2 (ix foot) push lean).2) 0 (ix foot) push lean (by rw [nextOff_ne (by omega)]; exact hd) (by first | with_reducible assumption | omega)) knX1_nextOff q505 q506 q507 clsX1 rfl dX5_correct_43 (lcons rfl (lcons rfl (lcons (congrArg vi (vx ha2)) (lcons rfl (lcons rfl rfl))))) rfl (Nat.le_of_ble_eq_true rfl) (by decide) (by decide) rfl ?_
    refine g_icmp_ge (n := 49) (tgt := 53) ok dX5_correct_46 (by decide) rfl (fun c3 => ?_) (fun c3 => ?_)
    · rw [if_pos c3]
      refine g_iconst (n := 54) (v := 0) ok dX5_correct_53 rfl rfl ?_
      exact g_iret ok hr dX5_correct_54
    · rw [if_neg c3]
      refine g_iconst (n := 50) (v := 1) ok dX5_correct_49 rfl rfl ?_
      refine g_goto (tgt := 54) ok dX5_correct_50 (by decide) ?_
      exact g_iret ok hr dX5_correct_54
  · rw [if_neg c1]
    refine g_aload_n (n := 14) ok 1 dX5_correct_13 rfl rfl rfl ?_
    refine g_iload (n := 16) ok 0 dX5_correct_14 rfl rfl ?_
    refine g_callV (n := 19) (rest := []) (av := [vi (fX5_footAndStrokeFault foot push lean)]) (j := 0) ok (kX5_refuse I (fX5_footAndStrokeFault foot push lean)) knX5_refuse q189 q191 qs0 clsX5 rfl dX5_correct_16 rfl rfl (Nat.le_of_ble_eq_true rfl) (by decide) (by decide) rfl ?_
    exact g_iret ok hr dX5_correct_19

noncomputable def fX5_lot (I : HI) (push : Int32) (lean : Int32) : Int32 × HI :=
  if fX5_strokeFault push lean = 0 then (if (fX1_nextOff I (I 1 3) 0 push lean).1 = (fX1_nextOff ((fX1_nextOff I (I 1 3) 0 push lean).2) (((fX1_nextOff I (I 1 3) 0 push lean).2) 1 3) 1 push lean).1 then (2, ((fX1_nextOff ((fX1_nextOff I (I 1 3) 0 push lean).2) (((fX1_nextOff I (I 1 3) 0 push lean).2) 1 3) 1 push lean).2)) else (if (fX1_nextOff ((fX1_nextOff I (I 1 3) 0 push lean).2) (((fX1_nextOff I (I 1 3) 0 push lean).2) 1 3) 1 push lean).1 ≤ (fX1_nextOff I (I 1 3) 0 push lean).1 then (1, ((fX1_nextOff ((fX1_nextOff I (I 1 3) 0 push lean).2) (((fX1_nextOff I (I 1 3) 0 push lean).2) 1 3) 1 push lean).2)) else (0, ((fX1_nextOff ((fX1_nextOff I (I 1 3) 0 push lean).2) (((fX1_nextOff I (I 1 3) 0 push lean).2) 1 3) 1 push lean).2)))) else ((fX5_refuse I (fX5_strokeFault push lean)).1, ((fX5_refuse I (fX5_strokeFault push lean)).2))
theorem knX5_lot : Kn yX5_lot cX5_lot 6 (some .int) 2 := ⟨q610, q1, ⟨by decide, by decide⟩, by decide +kernel⟩
set_option maxHeartbeats 400000 in
set_option maxRecDepth 100000 in
theorem kX5_lot (I : HI) (push : Int32) (lean : Int32) (hd : vp_in (I 1 6) 7) : Cx yX5_lot cX5_lot 6 (some .int) 6 149 [vr 0, vi push, vi lean] I ((some (vi (((fX5_lot I push lean).1))), (fX5_lot I push lean).2)) := by
  refine Cx.mk (lv := [(0, vr 0), (1, vi push), (2, vi lean)]) (by decide) (Nat.le_of_ble_eq_true rfl) rfl (fun E ok hr => ?_)
  rw [fX5_lot]
  refine g_iload_n (n := 1) ok 1 dX5_lot_0 rfl rfl rfl ?_
  refine g_iload_n (n := 2) ok 2 dX5_lot_1 rfl rfl rfl ?_
  refine g_callS (n := 5) (rest := []) (av := [vi push, vi lean]) ok (kX5_strokeFault I push lean) knX5_strokeFault q360 q271 dX5_lot_2 rfl rfl (Nat.le_of_ble_eq_true rfl) (by decide) (by decide) rfl ?_
  refine g_istore_n (n := 6) (lv' := [(3, vi (fX5_strokeFault push lean)), (0, vr 0), (1, vi push), (2, vi lean)]) ok dX5_lot_5 rfl (by decide) rfl rfl ?_
  refine g_iload_n (n := 7) ok 0 dX5_lot_6 rfl rfl rfl ?_
  refine g_if_eq (n := 10) (tgt := 16) ok dX5_lot_7 (by decide) rfl (fun c1 => ?_) (fun c1 => ?_)
  · rw [if_pos c1]
    refine g_aload_n (n := 17) ok 1 dX5_lot_16 rfl rfl rfl ?_
    refine g_get (n := 20) (v := vr 37) (c := 5) (k := 4) ok dX5_lot_17 clsX5 (by decide) q158 rfl rfl rfl ?_
    refine g_aload_n (n := 21) ok 1 dX5_lot_20 rfl rfl rfl ?_
    refine g_get (n := 24) (v := vr 1) (c := 5) (k := 0) ok dX5_lot_21 clsX5 (by decide) q154 rfl rfl rfl ?_
    refine g_get (n := 27) (v := vi (I 1 3)) (c := 3) (k := 3) ok dX5_lot_24 clsX3 (by decide) q73 rfl rfl rfl ?_
    refine g_iconst (n := 28) (v := 0) ok dX5_lot_27 rfl rfl ?_
    refine g_iload_n (n := 29) ok 2 dX5_lot_28 rfl rfl rfl ?_
    refine g_iload_n (n := 30) ok 3 dX5_lot_29 rfl rfl rfl ?_
    refine g_callV (n := 33) (rest := []) (av := [vi (I 1 3), vi (nI 0), vi push, vi lean]) (j := 37) ok (kX1_nextOff I (I 1 3) 0 push lean (by first | with_reducible assumption | omega) (by first | with_reducible assumption | omega)) knX1_nextOff q505 q506 q507 clsX1 rfl dX5_lot_30 rfl rfl (Nat.le_of_ble_eq_true rfl) (by decide) (by decide) rfl ?_
    refine g_istore (n := 35) (lv' := [(4, vi ((fX1_nextOff I (I 1 3) 0 push lean).1)), (3, vi (fX5_strokeFault push lean)), (0, vr 0), (1, vi push), (2, vi lean)]) ok dX5_lot_33 (by decide) rfl rfl ?_
    refine g_aload_n (n := 36) ok 2 dX5_lot_35 rfl rfl rfl ?_
    refine g_get (n := 39) (v := vr 37) (c := 5) (k := 4) ok dX5_lot_36 clsX5 (by decide) q158 rfl rfl rfl ?_
    refine g_aload_n (n := 40) ok 2 dX5_lot_39 rfl rfl rfl ?_
    refine g_get (n := 43) (v := vr 1) (c := 5) (k := 0) ok dX5_lot_40 clsX5 (by decide) q154 rfl rfl rfl ?_
    refine g_get (n := 46) (v := vi (((fX1_nextOff I (I 1 3) 0 push lean).2) 1 3)) (c := 3) (k := 3) ok dX5_lot_43 clsX3 (by decide) q73 rfl rfl rfl ?_
    refine g_iconst (n := 47) (v := 1) ok dX5_lot_46 rfl rfl ?_
    refine g_iload_n (n := 48) ok 3 dX5_lot_47 rfl rfl rfl ?_
    refine g_iload_n (n := 49) ok 4 dX5_lot_48 rfl rfl rfl ?_
    refine g_callV (n := 52) (rest := []) (av := [vi (((fX1_nextOff I (I 1 3) 0 push lean).2) 1 3), vi (nI 1), vi push, vi lean]) (j := 37) ok (kX1_nextOff ((fX1_nextOff I (I 1 3) 0 push lean).2) (((fX1_nextOff I (I 1 3) 0 push lean).2) 1 3) 1 push lean (by rw [nextOff_ne (by omega)]; exact hd) (by first | with_reducible assumption | omega)) knX1_nextOff q505 q506 q507 clsX1 rfl dX5_lot_49 rfl rfl (Nat.le_of_ble_eq_true rfl) (by decide) (by decide) rfl ?_
    refine g_istore (n := 54) (lv' := [(5, vi ((fX1_nextOff ((fX1_nextOff I (I 1 3) 0 push lean).2) (((fX1_nextOff I (I 1 3) 0 push lean).2) 1 3) 1 push lean).1)), (4, vi ((fX1_nextOff I (I 1 3) 0 push lean).1)), (3, vi (fX5_strokeFault push lean)), (0, vr 0), (1, vi push), (2, vi lean)]) ok dX5_lot_52 (by decide) rfl rfl ?_
    refine g_iload (n := 56) ok 1 dX5_lot_54 rfl rfl ?_
    refine g_iload (n := 58) ok 0 dX5_lot_56 rfl rfl ?_
    refine g_icmp_ne (n := 61) (tgt := 63) ok dX5_lot_58 (by decide) rfl (fun c2 => ?_) (fun c2 => ?_)
    · rw [if_neg c2]
      refine g_iload (n := 65) ok 1 dX5_lot_63 rfl rfl ?_
      refine g_iload (n := 67) ok 0 dX5_lot_65 rfl rfl ?_
      refine g_icmp_ge (n := 70) (tgt := 74) ok dX5_lot_67 (by decide) rfl (fun c3 => ?_) (fun c3 => ?_)
      · rw [if_pos c3]
        refine g_iconst (n := 75) (v := 1) ok dX5_lot_74 rfl rfl ?_
        exact g_iret ok hr dX5_lot_75
      · rw [if_neg c3]
        refine g_iconst (n := 71) (v := 0) ok dX5_lot_70 rfl rfl ?_
        refine g_goto (tgt := 75) ok dX5_lot_71 (by decide) ?_
        exact g_iret ok hr dX5_lot_75
    · rw [if_pos c2]
      refine g_iconst (n := 62) (v := 2) ok dX5_lot_61 rfl rfl ?_
      exact g_iret ok hr dX5_lot_62
  · rw [if_neg c1]
    refine g_aload_n (n := 11) ok 1 dX5_lot_10 rfl rfl rfl ?_
    refine g_iload_n (n := 12) ok 0 dX5_lot_11 rfl rfl rfl ?_
    refine g_callV (n := 15) (rest := []) (av := [vi (fX5_strokeFault push lean)]) (j := 0) ok (kX5_refuse I (fX5_strokeFault push lean)) knX5_refuse q189 q191 qs0 clsX5 rfl dX5_lot_12 rfl rfl (Nat.le_of_ble_eq_true rfl) (by decide) (by decide) rfl ?_
    exact g_iret ok hr dX5_lot_15

noncomputable def fX5_from (I : HI) (hour : Int32) (what : Int32) (part : Int32) : Int64 × HI :=
  if fX5_isHour hour = 0 then ((fX5_refuseLong I (-1)).1, ((fX5_refuseLong I (-1)).2)) else (if fX5_within what 0 2 = 0 then ((fX5_refuseLong I (-2)).1, ((fX5_refuseLong I (-2)).2)) else (if fX5_within part 0 1 = 0 then ((fX5_refuseLong I (-2)).1, ((fX5_refuseLong I (-2)).2)) else (fX5_partOfFraction (fX3_shareOf I what (ix hour)) (((fX3_shareOf I 0 (ix hour)) + (fX3_shareOf I 1 (ix hour))) + (fX3_shareOf I 2 (ix hour))) part, I)))
theorem knX5_from : Kn yX5_from cX5_from 5 (some .long) 3 := ⟨q512, q1, ⟨by decide, by decide⟩, by decide +kernel⟩
set_option maxHeartbeats 400000 in
set_option maxRecDepth 100000 in
theorem kX5_from (I : HI) (hour : Int32) (what : Int32) (part : Int32) (hd : vp_in (I 1 6) 7) : Cx yX5_from cX5_from 5 (some .long) 4 92 [vr 0, vi hour, vi what, vi part] I ((some (vl (((fX5_from I hour what part).1))), (fX5_from I hour what part).2)) := by
  refine Cx.mk (lv := [(0, vr 0), (1, vi hour), (2, vi what), (3, vi part)]) (by decide) (Nat.le_of_ble_eq_true rfl) rfl (fun E ok hr => ?_)
  rw [fX5_from]
  refine g_iload_n (n := 1) ok 1 dX5_from_0 rfl rfl rfl ?_
  refine g_callS (n := 4) (rest := []) (av := [vi hour]) ok (kX5_isHour I hour) knX5_isHour q266 q267 dX5_from_1 rfl rfl (Nat.le_of_ble_eq_true rfl) (by decide) (by decide) rfl ?_
  refine g_if_ne (n := 7) (tgt := 13) ok dX5_from_4 (by decide) rfl (fun c1 => ?_) (fun c1 => ?_)
  · rw [if_neg c1]
    have ha2 : vp_in hour 12 := isHour_in c1
    have ha2b := vb ha2
    refine g_iload_n (n := 14) ok 2 dX5_from_13 rfl rfl rfl ?_
    refine g_iconst (n := 15) (v := 0) ok dX5_from_14 rfl rfl ?_
    refine g_iconst (n := 16) (v := 2) ok dX5_from_15 rfl rfl ?_
    refine g_callS (n := 19) (rest := []) (av := [vi what, vi 0, vi 2]) ok (kX5_within I what 0 2) knX5_within q193 q194 dX5_from_16 rfl rfl (Nat.le_of_ble_eq_true rfl) (by decide) (by decide) rfl ?_
    refine g_if_eq (n := 22) (tgt := 31) ok dX5_from_19 (by decide) rfl (fun c3 => ?_) (fun c3 => ?_)
    · rw [if_pos c3]
      refine g_aload_n (n := 32) ok 0 dX5_from_31 rfl rfl rfl ?_
      refine g_bipush (n := 34) (v := -2) ok dX5_from_32 rfl rfl ?_
      refine g_callV (n := 37) (rest := []) (av := [vi (-2)]) (j := 0) ok (kX5_refuseLong I (-2)) knX5_refuseLong q421 q423 qs13 clsX5 rfl dX5_from_34 rfl rfl (Nat.le_of_ble_eq_true rfl) (by decide) (by decide) rfl ?_
      exact g_lret ok hr dX5_from_37
    · rw [if_neg c3]
      have ha4 : vp_in what 3 := within_in (b := 2) c3 (by omega)
      have ha4b := vb ha4
      refine g_iload_n (n := 23) ok 3 dX5_from_22 rfl rfl rfl ?_
      refine g_iconst (n := 24) (v := 0) ok dX5_from_23 rfl rfl ?_
      refine g_iconst (n := 25) (v := 1) ok dX5_from_24 rfl rfl ?_
      refine g_callS (n := 28) (rest := []) (av := [vi part, vi 0, vi 1]) ok (kX5_within I part 0 1) knX5_within q193 q194 dX5_from_25 rfl rfl (Nat.le_of_ble_eq_true rfl) (by decide) (by decide) rfl ?_
      refine g_if_ne (n := 31) (tgt := 38) ok dX5_from_28 (by decide) rfl (fun c5 => ?_) (fun c5 => ?_)
      · rw [if_neg c5]
        have ha6 : vp_in part 2 := within_in (b := 1) c5 (by omega)
        have ha6b := vb ha6
        refine g_aload_n (n := 39) ok 0 dX5_from_38 rfl rfl rfl ?_
        refine g_get (n := 42) (v := vr 1) (c := 5) (k := 0) ok dX5_from_39 clsX5 (by decide) q154 rfl rfl rfl ?_
        refine g_iconst (n := 43) (v := 0) ok dX5_from_42 rfl rfl ?_
        refine g_iload_n (n := 44) ok 1 dX5_from_43 rfl rfl rfl ?_
        refine g_callV (n := 47) (rest := []) (av := [vi 0, vi (nI (ix hour))]) (j := 1) ok (kX3_shareOf I 0 (ix hour) (by first | with_reducible assumption | omega) (by first | with_reducible assumption | omega)) knX3_shareOf q513 q514 q515 clsX3 rfl dX5_from_44 (lcons (congrArg vi (vx ha2)) (lcons rfl (lcons rfl rfl))) rfl (Nat.le_of_ble_eq_true rfl) (by decide) (by decide) rfl ?_
        refine g_aload_n (n := 48) ok 0 dX5_from_47 rfl rfl rfl ?_
        refine g_get (n := 51) (v := vr 1) (c := 5) (k := 0) ok dX5_from_48 clsX5 (by decide) q154 rfl rfl rfl ?_
        refine g_iconst (n := 52) (v := 1) ok dX5_from_51 rfl rfl ?_
        refine g_iload_n (n := 53) ok 1 dX5_from_52 rfl rfl rfl ?_
        refine g_callV (n := 56) (rest := [vi (fX3_shareOf I 0 (ix hour))]) (av := [vi 1, vi (nI (ix hour))]) (j := 1) ok (kX3_shareOf I 1 (ix hour) (by first | with_reducible assumption | omega) (by first | with_reducible assumption | omega)) knX3_shareOf q513 q514 q515 clsX3 rfl dX5_from_53 (lcons (congrArg vi (vx ha2)) (lcons rfl (lcons rfl rfl))) rfl (Nat.le_of_ble_eq_true rfl) (by decide) (by decide) rfl ?_
        refine g_iadd (n := 57) ok dX5_from_56 rfl ?_
        refine g_aload_n (n := 58) ok 0 dX5_from_57 rfl rfl rfl ?_
        refine g_get (n := 61) (v := vr 1) (c := 5) (k := 0) ok dX5_from_58 clsX5 (by decide) q154 rfl rfl rfl ?_
        refine g_iconst (n := 62) (v := 2) ok dX5_from_61 rfl rfl ?_
        refine g_iload_n (n := 63) ok 1 dX5_from_62 rfl rfl rfl ?_
        refine g_callV (n := 66) (rest := [vi ((fX3_shareOf I 0 (ix hour)) + (fX3_shareOf I 1 (ix hour)))]) (av := [vi 2, vi (nI (ix hour))]) (j := 1) ok (kX3_shareOf I 2 (ix hour) (by first | with_reducible assumption | omega) (by first | with_reducible assumption | omega)) knX3_shareOf q513 q514 q515 clsX3 rfl dX5_from_63 (lcons (congrArg vi (vx ha2)) (lcons rfl (lcons rfl rfl))) rfl (Nat.le_of_ble_eq_true rfl) (by decide) (by decide) rfl ?_
        refine g_iadd (n := 67) ok dX5_from_66 rfl ?_
        refine g_istore (n := 69) (lv' := [(4, vi (((fX3_shareOf I 0 (ix hour)) + (fX3_shareOf I 1 (ix hour))) + (fX3_shareOf I 2 (ix hour)))), (0, vr 0), (1, vi hour), (2, vi what), (3, vi part)]) ok dX5_from_67 (by decide) rfl rfl ?_
        refine g_aload_n (n := 70) ok 1 dX5_from_69 rfl rfl rfl ?_
        refine g_get (n := 73) (v := vr 1) (c := 5) (k := 0) ok dX5_from_70 clsX5 (by decide) q154 rfl rfl rfl ?_
        refine g_iload_n (n := 74) ok 3 dX5_from_73 rfl rfl rfl ?_
        refine g_iload_n (n := 75) ok 2 dX5_from_74 rfl rfl rfl ?_
        refine g_callV (n := 78) (rest := []) (av := [vi what, vi (nI (ix hour))]) (j := 1) ok (kX3_shareOf I what (ix hour) (by first | with_reducible assumption | omega) (by first | with_reducible assumption | omega)) knX3_shareOf q513 q514 q515 clsX3 rfl dX5_from_75 (lcons (congrArg vi (vx ha2)) (lcons rfl (lcons rfl rfl))) rfl (Nat.le_of_ble_eq_true rfl) (by decide) (by decide) rfl ?_
        refine g_iload (n := 80) ok 0 dX5_from_78 rfl rfl ?_
        refine g_iload_n (n := 81) ok 4 dX5_from_80 rfl rfl rfl ?_
        refine g_callS (n := 84) (rest := []) (av := [vi (fX3_shareOf I what (ix hour)), vi (((fX3_shareOf I 0 (ix hour)) + (fX3_shareOf I 1 (ix hour))) + (fX3_shareOf I 2 (ix hour))), vi part]) ok (kX5_partOfFraction I (fX3_shareOf I what (ix hour)) (((fX3_shareOf I 0 (ix hour)) + (fX3_shareOf I 1 (ix hour))) + (fX3_shareOf I 2 (ix hour))) part) knX5_partOfFraction q430 q431 dX5_from_81 rfl rfl (Nat.le_of_ble_eq_true rfl) (by decide) (by decide) rfl ?_
        exact g_lret ok hr dX5_from_84
      · rw [if_pos c5]
        refine g_aload_n (n := 32) ok 0 dX5_from_31 rfl rfl rfl ?_
        refine g_bipush (n := 34) (v := -2) ok dX5_from_32 rfl rfl ?_
        refine g_callV (n := 37) (rest := []) (av := [vi (-2)]) (j := 0) ok (kX5_refuseLong I (-2)) knX5_refuseLong q421 q423 qs13 clsX5 rfl dX5_from_34 rfl rfl (Nat.le_of_ble_eq_true rfl) (by decide) (by decide) rfl ?_
        exact g_lret ok hr dX5_from_37
  · rw [if_pos c1]
    refine g_aload_n (n := 8) ok 0 dX5_from_7 rfl rfl rfl ?_
    refine g_iconst (n := 9) (v := -1) ok dX5_from_8 rfl rfl ?_
    refine g_callV (n := 12) (rest := []) (av := [vi (-1)]) (j := 0) ok (kX5_refuseLong I (-1)) knX5_refuseLong q421 q423 qs13 clsX5 rfl dX5_from_9 rfl rfl (Nat.le_of_ble_eq_true rfl) (by decide) (by decide) rfl ?_
    exact g_lret ok hr dX5_from_12

noncomputable def fX5_whose_x75 (x75_3 : Int32) (J75 : HI) : Int32 × HI :=
  (x75_3, J75)
noncomputable def fX5_whose_b75 (foot : Int32) (i75 : Nat) (x75_3 : Int32) (J75 : HI) : Int32 × HI :=
  if (fX1_strokeOf J75 (nI i75) (ix foot)).1 = (-9) then (x75_3, ((fX1_strokeOf J75 (nI i75) (ix foot)).2)) else (x75_3 ||| (1 <<< ((nI i75) &&& 31)), ((fX1_strokeOf J75 (nI i75) (ix foot)).2))
noncomputable def fX5_whose (I : HI) (foot : Int32) (kind : Int32) : Int32 × HI :=
  if fX5_isFoot foot = 0 then ((fX5_refuse I (-1)).1, ((fX5_refuse I (-1)).2)) else (if kind = (-1) then (if I 0 7 = 12 then (fun (s : Int32 × HI) => fX5_whose_x75 s.1 s.2) (fo 7 0 (fun (i : Nat) (s : Int32 × HI) => fX5_whose_b75 foot i s.1 s.2) (0, I)) else ((fX5_refuse I (-3)).1, ((fX5_refuse I (-3)).2))) else (if fX5_within kind 0 6 = 0 then ((fX5_refuse I (-2)).1, ((fX5_refuse I (-2)).2)) else (if I 0 7 = 12 then ((fX1_strokeOf I kind (ix foot)).1, ((fX1_strokeOf I kind (ix foot)).2)) else ((fX5_refuse I (-3)).1, ((fX5_refuse I (-3)).2)))))
theorem knX5_whose : Kn yX5_whose cX5_whose 5 (some .int) 2 := ⟨q525, q1, ⟨by decide, by decide⟩, by decide +kernel⟩
set_option maxHeartbeats 400000 in
set_option maxRecDepth 100000 in
theorem kX5_whose (I : HI) (foot : Int32) (kind : Int32) (hd : vp_in (I 1 6) 7) : Cx yX5_whose cX5_whose 5 (some .int) 6 150 [vr 0, vi foot, vi kind] I ((some (vi (((fX5_whose I foot kind).1))), (fX5_whose I foot kind).2)) := by
  refine Cx.mk (lv := [(0, vr 0), (1, vi foot), (2, vi kind)]) (by decide) (Nat.le_of_ble_eq_true rfl) rfl (fun E ok hr => ?_)
  rw [fX5_whose]
  refine g_iload_n (n := 1) ok 1 dX5_whose_0 rfl rfl rfl ?_
  refine g_callS (n := 4) (rest := []) (av := [vi foot]) ok (kX5_isFoot I foot) knX5_isFoot q263 q264 dX5_whose_1 rfl rfl (Nat.le_of_ble_eq_true rfl) (by decide) (by decide) rfl ?_
  refine g_if_ne (n := 7) (tgt := 13) ok dX5_whose_4 (by decide) rfl (fun c1 => ?_) (fun c1 => ?_)
  · rw [if_neg c1]
    have ha2 : vp_in foot 2 := isFoot_in c1
    have ha2b := vb ha2
    refine g_iload_n (n := 14) ok 2 dX5_whose_13 rfl rfl rfl ?_
    refine g_iconst (n := 15) (v := -1) ok dX5_whose_14 rfl rfl ?_
    refine g_icmp_eq (n := 18) (tgt := 35) ok dX5_whose_15 (by decide) rfl (fun c3 => ?_) (fun c3 => ?_)
    · rw [if_pos c3]
      refine g_aload_n (n := 36) ok 0 dX5_whose_35 rfl rfl rfl ?_
      refine g_get (n := 39) (v := vi (I 0 7)) (c := 5) (k := 7) ok dX5_whose_36 clsX5 (by decide) q161 rfl rfl rfl ?_
      refine g_bipush (n := 41) (v := 12) ok dX5_whose_39 rfl rfl ?_
      refine g_icmp_eq (n := 44) (tgt := 51) ok dX5_whose_41 (by decide) rfl (fun c4 => ?_) (fun c4 => ?_)
      · rw [if_pos c4]
        refine g_iload_n (n := 52) ok 2 dX5_whose_51 rfl rfl rfl ?_
        refine g_iconst (n := 53) (v := -1) ok dX5_whose_52 rfl rfl ?_
        refine g_icmp_eq (n := 56) (tgt := 70) ok dX5_whose_53 (by decide) rfl (fun c5 => ?_) (fun c5 => ?_)
        · refine g_iconst (n := 71) (v := 0) ok dX5_whose_70 rfl rfl ?_
          refine g_istore_n (n := 72) (lv' := [(3, vi 0), (0, vr 0), (1, vi foot), (2, vi kind)]) ok dX5_whose_71 rfl (by decide) rfl rfl ?_
          refine g_iconst (n := 73) (v := 0) ok dX5_whose_72 rfl rfl ?_
          refine g_istore (n := 75) (lv' := [(4, vi 0), (3, vi 0), (0, vr 0), (1, vi foot), (2, vi kind)]) ok dX5_whose_73 (by decide) rfl rfl ?_
          have X75 : ∀ (x75_3 : Int32) (J75 : HI) (hd2 : vp_in (J75 1 6) 7), G E 5 ((some (vi (((fX5_whose_x75 x75_3 J75).1))), (fX5_whose_x75 x75_3 J75).2)) J75 114 [(3, vi x75_3)] [] := by
            intro x75_3 J75 hd2
            rw [fX5_whose_x75]
            refine g_iload_n (n := 115) ok 0 dX5_whose_114 rfl rfl rfl ?_
            exact g_iret ok hr dX5_whose_115
          have L75 : ∀ (n75 i75 : Nat) (x75_3 : Int32) (J75 : HI) (hd2 : vp_in (J75 1 6) 7) (hi : i75 + n75 = 7), G E 5 ((some (vi ((((fun (s : Int32 × HI) => fX5_whose_x75 s.1 s.2) (fo n75 i75 (fun (i : Nat) (s : Int32 × HI) => fX5_whose_b75 foot i s.1 s.2) (x75_3, J75))).1))), ((fun (s : Int32 × HI) => fX5_whose_x75 s.1 s.2) (fo n75 i75 (fun (i : Nat) (s : Int32 × HI) => fX5_whose_b75 foot i s.1 s.2) (x75_3, J75))).2)) J75 75 [(4, vi (nI i75)), (3, vi x75_3), (0, vr 0), (1, vi foot)] [] := by
            intro n75
            induction n75 with
            | zero =>
              intro i75 x75_3 J75 hd2 hi
              rw [fo_0]
              refine g_iload (n := 77) ok 0 dX5_whose_75 rfl rfl ?_
              refine g_bipush (n := 79) (v := 7) ok dX5_whose_77 rfl rfl ?_
              refine g_icmp_ge (n := 82) (tgt := 114) ok dX5_whose_79 (by decide) rfl (fun c => ?_) (fun c => absurd (nle (a := 7) (b := i75) rfl rfl (by omega) (by omega)) c)
              refine g_sub [1] rfl ?_
              exact X75 _ _ hd2
            | succ n75 ih =>
              intro i75 x75_3 J75 hd2 hi
              refine g_iload (n := 77) ok 0 dX5_whose_75 rfl rfl ?_
              refine g_bipush (n := 79) (v := 7) ok dX5_whose_77 rfl rfl ?_
              refine g_icmp_ge (n := 82) (tgt := 114) ok dX5_whose_79 (by decide) rfl (fun c => absurd c (nnle (a := 7) (b := i75) rfl rfl (by omega) (by omega))) (fun c => ?_)
              rw [fo_s]
              show G E 5 ((some (vi ((((fun (s : Int32 × HI) => fX5_whose_x75 s.1 s.2) (fo n75 (i75 + 1) (fun (i : Nat) (s : Int32 × HI) => fX5_whose_b75 foot i s.1 s.2) (fX5_whose_b75 foot i75 x75_3 J75))).1))), ((fun (s : Int32 × HI) => fX5_whose_x75 s.1 s.2) (fo n75 (i75 + 1) (fun (i : Nat) (s : Int32 × HI) => fX5_whose_b75 foot i s.1 s.2) (fX5_whose_b75 foot i75 x75_3 J75))).2)) _ _ _ _
              rw [fX5_whose_b75]
              refine g_aload_n (n := 83) ok 2 dX5_whose_82 rfl rfl rfl ?_
              refine g_get (n := 86) (v := vr 37) (c := 5) (k := 4) ok dX5_whose_83 clsX5 (by decide) q158 rfl rfl rfl ?_
              refine g_iload (n := 88) ok 0 dX5_whose_86 rfl rfl ?_
              refine g_iload_n (n := 89) ok 3 dX5_whose_88 rfl rfl rfl ?_
              refine g_aload_n (n := 90) ok 2 dX5_whose_89 rfl rfl rfl ?_
              refine g_get (n := 93) (v := vr 50) (c := 5) (k := 6) ok dX5_whose_90 clsX5 (by decide) q160 rfl rfl rfl ?_
              refine g_callV (n := 96) (rest := []) (av := [vi (nI i75), vi (nI (ix foot)), vr 50]) (j := 37) ok (kX1_strokeOf J75 (nI i75) (ix foot) hd2 (by first | with_reducible assumption | omega)) knX1_strokeOf q526 q527 q528 clsX1 rfl dX5_whose_93 (lcons rfl (lcons (congrArg vi (vx ha2)) (lcons rfl (lcons rfl rfl)))) rfl (Nat.le_of_ble_eq_true rfl) (by decide) (by decide) rfl ?_
              refine g_bipush (n := 98) (v := -9) ok dX5_whose_96 rfl rfl ?_
              refine g_icmp_eq (n := 101) (tgt := 108) ok dX5_whose_98 (by decide) rfl (fun c6 => ?_) (fun c6 => ?_)
              · rw [if_pos c6]
                refine g_iinc (n := 111) (v := nI (i75 + 1)) (lv' := [(4, vi (nI (i75 + 1))), (3, vi x75_3), (0, vr 0), (1, vi foot)]) ok 0 dX5_whose_108 rfl (iinc_n (a := i75) rfl) (by decide) rfl rfl ?_
                refine g_goto (tgt := 75) ok dX5_whose_111 (by decide) ?_
                exact ih (i75 + 1) x75_3 _ (by rw [strokeOf_ne (by omega)]; exact hd2) (by omega)
              · rw [if_neg c6]
                refine g_iload_n (n := 102) ok 1 dX5_whose_101 rfl rfl rfl ?_
                refine g_iconst (n := 103) (v := 1) ok dX5_whose_102 rfl rfl ?_
                refine g_iload (n := 105) ok 0 dX5_whose_103 rfl rfl ?_
                refine g_ishl (n := 106) ok dX5_whose_105 rfl ?_
                refine g_ior (n := 107) ok dX5_whose_106 rfl ?_
                refine g_istore_n (n := 108) (lv' := [(3, vi (x75_3 ||| (1 <<< ((nI i75) &&& 31)))), (4, vi (nI i75)), (0, vr 0), (1, vi foot)]) ok dX5_whose_107 rfl (by decide) rfl rfl ?_
                refine g_iinc (n := 111) (v := nI (i75 + 1)) (lv' := [(4, vi (nI (i75 + 1))), (3, vi (x75_3 ||| (1 <<< ((nI i75) &&& 31)))), (0, vr 0), (1, vi foot)]) ok 1 dX5_whose_108 rfl (iinc_n (a := i75) rfl) (by decide) rfl rfl ?_
                refine g_goto (tgt := 75) ok dX5_whose_111 (by decide) ?_
                exact ih (i75 + 1) (x75_3 ||| (1 <<< ((nI i75) &&& 31))) _ (by rw [strokeOf_ne (by omega)]; exact hd2) (by omega)
          refine g_sub [0, 1, 2, 3] rfl ?_
          exact L75 7 0 0 _ hd (by omega)
        · exact absurd c3 c5
      · rw [if_neg c4]
        refine g_aload_n (n := 45) ok 0 dX5_whose_44 rfl rfl rfl ?_
        refine g_bipush (n := 47) (v := -3) ok dX5_whose_45 rfl rfl ?_
        refine g_callV (n := 50) (rest := []) (av := [vi (-3)]) (j := 0) ok (kX5_refuse I (-3)) knX5_refuse q189 q191 qs0 clsX5 rfl dX5_whose_47 rfl rfl (Nat.le_of_ble_eq_true rfl) (by decide) (by decide) rfl ?_
        exact g_iret ok hr dX5_whose_50
    · rw [if_neg c3]
      refine g_iload_n (n := 19) ok 2 dX5_whose_18 rfl rfl rfl ?_
      refine g_iconst (n := 20) (v := 0) ok dX5_whose_19 rfl rfl ?_
      refine g_bipush (n := 22) (v := 6) ok dX5_whose_20 rfl rfl ?_
      refine g_callS (n := 25) (rest := []) (av := [vi kind, vi 0, vi 6]) ok (kX5_within I kind 0 6) knX5_within q193 q194 dX5_whose_22 rfl rfl (Nat.le_of_ble_eq_true rfl) (by decide) (by decide) rfl ?_
      refine g_if_ne (n := 28) (tgt := 35) ok dX5_whose_25 (by decide) rfl (fun c7 => ?_) (fun c7 => ?_)
      · rw [if_neg c7]
        have ha8 : vp_in kind 7 := within_in (b := 6) c7 (by omega)
        have ha8b := vb ha8
        refine g_aload_n (n := 36) ok 0 dX5_whose_35 rfl rfl rfl ?_
        refine g_get (n := 39) (v := vi (I 0 7)) (c := 5) (k := 7) ok dX5_whose_36 clsX5 (by decide) q161 rfl rfl rfl ?_
        refine g_bipush (n := 41) (v := 12) ok dX5_whose_39 rfl rfl ?_
        refine g_icmp_eq (n := 44) (tgt := 51) ok dX5_whose_41 (by decide) rfl (fun c9 => ?_) (fun c9 => ?_)
        · rw [if_pos c9]
          refine g_iload_n (n := 52) ok 2 dX5_whose_51 rfl rfl rfl ?_
          refine g_iconst (n := 53) (v := -1) ok dX5_whose_52 rfl rfl ?_
          refine g_icmp_eq (n := 56) (tgt := 70) ok dX5_whose_53 (by decide) rfl (fun c10 => ?_) (fun c10 => ?_)
          · exact absurd c10 c3
          · refine g_aload_n (n := 57) ok 0 dX5_whose_56 rfl rfl rfl ?_
            refine g_get (n := 60) (v := vr 37) (c := 5) (k := 4) ok dX5_whose_57 clsX5 (by decide) q158 rfl rfl rfl ?_
            refine g_iload_n (n := 61) ok 2 dX5_whose_60 rfl rfl rfl ?_
            refine g_iload_n (n := 62) ok 1 dX5_whose_61 rfl rfl rfl ?_
            refine g_aload_n (n := 63) ok 0 dX5_whose_62 rfl rfl rfl ?_
            refine g_get (n := 66) (v := vr 50) (c := 5) (k := 6) ok dX5_whose_63 clsX5 (by decide) q160 rfl rfl rfl ?_
            refine g_callV (n := 69) (rest := []) (av := [vi kind, vi (nI (ix foot)), vr 50]) (j := 37) ok (kX1_strokeOf I kind (ix foot) (by first | with_reducible assumption | omega) (by first | with_reducible assumption | omega)) knX1_strokeOf q526 q527 q528 clsX1 rfl dX5_whose_66 (lcons rfl (lcons (congrArg vi (vx ha2)) (lcons rfl (lcons rfl rfl)))) rfl (Nat.le_of_ble_eq_true rfl) (by decide) (by decide) rfl ?_
            exact g_iret ok hr dX5_whose_69
        · rw [if_neg c9]
          refine g_aload_n (n := 45) ok 0 dX5_whose_44 rfl rfl rfl ?_
          refine g_bipush (n := 47) (v := -3) ok dX5_whose_45 rfl rfl ?_
          refine g_callV (n := 50) (rest := []) (av := [vi (-3)]) (j := 0) ok (kX5_refuse I (-3)) knX5_refuse q189 q191 qs0 clsX5 rfl dX5_whose_47 rfl rfl (Nat.le_of_ble_eq_true rfl) (by decide) (by decide) rfl ?_
          exact g_iret ok hr dX5_whose_50
      · rw [if_pos c7]
        refine g_aload_n (n := 29) ok 0 dX5_whose_28 rfl rfl rfl ?_
        refine g_bipush (n := 31) (v := -2) ok dX5_whose_29 rfl rfl ?_
        refine g_callV (n := 34) (rest := []) (av := [vi (-2)]) (j := 0) ok (kX5_refuse I (-2)) knX5_refuse q189 q191 qs0 clsX5 rfl dX5_whose_31 rfl rfl (Nat.le_of_ble_eq_true rfl) (by decide) (by decide) rfl ?_
        exact g_iret ok hr dX5_whose_34
  · rw [if_pos c1]
    refine g_aload_n (n := 8) ok 0 dX5_whose_7 rfl rfl rfl ?_
    refine g_iconst (n := 9) (v := -1) ok dX5_whose_8 rfl rfl ?_
    refine g_callV (n := 12) (rest := []) (av := [vi (-1)]) (j := 0) ok (kX5_refuse I (-1)) knX5_refuse q189 q191 qs0 clsX5 rfl dX5_whose_9 rfl rfl (Nat.le_of_ble_eq_true rfl) (by decide) (by decide) rfl ?_
    exact g_iret ok hr dX5_whose_12

noncomputable def fX5_mark (I : HI) (kind : Int32) (trace : Int32) : Int32 × HI :=
  if fX5_within kind 0 4 = 0 then ((fX5_refuse I (-2)).1, ((fX5_refuse I (-2)).2)) else (if fX3_hasTrace I trace = 0 then ((fX5_refuse I (-1)).1, ((fX5_refuse I (-1)).2)) else (fX2_markBy I kind (ix trace), I))
theorem knX5_mark : Kn yX5_mark cX5_mark 3 (some .int) 2 := ⟨q538, q1, ⟨by decide, by decide⟩, by decide +kernel⟩
set_option maxHeartbeats 400000 in
set_option maxRecDepth 100000 in
theorem kX5_mark (I : HI) (kind : Int32) (trace : Int32) (hd : vp_in (I 1 6) 7) (hF : ∀ n, n < 6 → vp_in (I (6 + 2 * n) 0) 2) : Cx yX5_mark cX5_mark 3 (some .int) 4 92 [vr 0, vi kind, vi trace] I ((some (vi (((fX5_mark I kind trace).1))), (fX5_mark I kind trace).2)) := by
  refine Cx.mk (lv := [(0, vr 0), (1, vi kind), (2, vi trace)]) (by decide) (Nat.le_of_ble_eq_true rfl) rfl (fun E ok hr => ?_)
  rw [fX5_mark]
  refine g_iload_n (n := 1) ok 1 dX5_mark_0 rfl rfl rfl ?_
  refine g_iconst (n := 2) (v := 0) ok dX5_mark_1 rfl rfl ?_
  refine g_iconst (n := 3) (v := 4) ok dX5_mark_2 rfl rfl ?_
  refine g_callS (n := 6) (rest := []) (av := [vi kind, vi 0, vi 4]) ok (kX5_within I kind 0 4) knX5_within q193 q194 dX5_mark_3 rfl rfl (Nat.le_of_ble_eq_true rfl) (by decide) (by decide) rfl ?_
  refine g_if_ne (n := 9) (tgt := 16) ok dX5_mark_6 (by decide) rfl (fun c1 => ?_) (fun c1 => ?_)
  · rw [if_neg c1]
    have ha2 : vp_in kind 5 := within_in (b := 4) c1 (by omega)
    have ha2b := vb ha2
    refine g_aload_n (n := 17) ok 0 dX5_mark_16 rfl rfl rfl ?_
    refine g_get (n := 20) (v := vr 1) (c := 5) (k := 0) ok dX5_mark_17 clsX5 (by decide) q154 rfl rfl rfl ?_
    refine g_iload_n (n := 21) ok 2 dX5_mark_20 rfl rfl rfl ?_
    refine g_callV (n := 24) (rest := []) (av := [vi trace]) (j := 1) ok (kX3_hasTrace I trace) knX3_hasTrace q370 q371 q372 clsX3 rfl dX5_mark_21 rfl rfl (Nat.le_of_ble_eq_true rfl) (by decide) (by decide) rfl ?_
    refine g_if_eq (n := 27) (tgt := 39) ok dX5_mark_24 (by decide) rfl (fun c3 => ?_) (fun c3 => ?_)
    · rw [if_pos c3]
      refine g_aload_n (n := 40) ok 0 dX5_mark_39 rfl rfl rfl ?_
      refine g_iconst (n := 41) (v := -1) ok dX5_mark_40 rfl rfl ?_
      refine g_callV (n := 44) (rest := []) (av := [vi (-1)]) (j := 0) ok (kX5_refuse I (-1)) knX5_refuse q189 q191 qs0 clsX5 rfl dX5_mark_41 rfl rfl (Nat.le_of_ble_eq_true rfl) (by decide) (by decide) rfl ?_
      exact g_iret ok hr dX5_mark_44
    · rw [if_neg c3]
      have ha4 : vp_in trace 6 := hasTrace_in hd c3
      have ha4b := vb ha4
      refine g_aload_n (n := 28) ok 0 dX5_mark_27 rfl rfl rfl ?_
      refine g_get (n := 31) (v := vr 35) (c := 5) (k := 3) ok dX5_mark_28 clsX5 (by decide) q157 rfl rfl rfl ?_
      refine g_iload_n (n := 32) ok 1 dX5_mark_31 rfl rfl rfl ?_
      refine g_iload_n (n := 33) ok 2 dX5_mark_32 rfl rfl rfl ?_
      refine g_callV (n := 36) (rest := []) (av := [vi kind, vi (nI (ix trace))]) (j := 35) ok (kX2_markBy I kind (ix trace) (by first | with_reducible assumption | omega) (by first | with_reducible assumption | omega) (by first | with_reducible assumption | omega)) knX2_markBy q539 q540 q541 clsX2 rfl dX5_mark_33 (lcons (congrArg vi (vx ha4)) (lcons rfl (lcons rfl rfl))) rfl (Nat.le_of_ble_eq_true rfl) (by decide) (by decide) rfl ?_
      refine g_goto (tgt := 44) ok dX5_mark_36 (by decide) ?_
      exact g_iret ok hr dX5_mark_44
  · rw [if_pos c1]
    refine g_aload_n (n := 10) ok 0 dX5_mark_9 rfl rfl rfl ?_
    refine g_bipush (n := 12) (v := -2) ok dX5_mark_10 rfl rfl ?_
    refine g_callV (n := 15) (rest := []) (av := [vi (-2)]) (j := 0) ok (kX5_refuse I (-2)) knX5_refuse q189 q191 qs0 clsX5 rfl dX5_mark_12 rfl rfl (Nat.le_of_ble_eq_true rfl) (by decide) (by decide) rfl ?_
    exact g_iret ok hr dX5_mark_15

noncomputable def fX5_fits_x25 (I : HI) (x25_1 : Int32) : Int32 × HI :=
  (x25_1, I)
noncomputable def fX5_fits_b25 (I : HI) (i25 : Nat) (x25_1 : Int32) : Int32 :=
  if fX2_marksAre I (nI i25) = 0 then x25_1 else x25_1 ||| (1 <<< ((nI i25) &&& 31))
noncomputable def fX5_fits (I : HI) : Int32 × HI :=
  if I 0 7 = I 1 6 then fX5_fits_x25 I (fo 5 0 (fun (i : Nat) (s : Int32) => fX5_fits_b25 I i s) 0) else ((fX5_refuse I (-3)).1, ((fX5_refuse I (-3)).2))
theorem knX5_fits : Kn yX5_fits cX5_fits 3 (some .int) 0 := ⟨q570, q1, ⟨by decide, by decide⟩, by decide +kernel⟩
set_option maxHeartbeats 400000 in
set_option maxRecDepth 100000 in
theorem kX5_fits (I : HI) (hd : vp_in (I 1 6) 7) (hF : ∀ n, n < 6 → vp_in (I (6 + 2 * n) 0) 2) : Cx yX5_fits cX5_fits 3 (some .int) 5 115 [vr 0] I ((some (vi (((fX5_fits I).1))), (fX5_fits I).2)) := by
  refine Cx.mk (lv := [(0, vr 0)]) (by decide) (Nat.le_of_ble_eq_true rfl) rfl (fun E ok hr => ?_)
  rw [fX5_fits]
  refine g_aload_n (n := 1) ok 0 dX5_fits_0 rfl rfl rfl ?_
  refine g_get (n := 4) (v := vi (I 0 7)) (c := 5) (k := 7) ok dX5_fits_1 clsX5 (by decide) q161 rfl rfl rfl ?_
  refine g_aload_n (n := 5) ok 0 dX5_fits_4 rfl rfl rfl ?_
  refine g_get (n := 8) (v := vr 1) (c := 5) (k := 0) ok dX5_fits_5 clsX5 (by decide) q154 rfl rfl rfl ?_
  refine g_get (n := 11) (v := vi (I 1 6)) (c := 3) (k := 6) ok dX5_fits_8 clsX3 (by decide) q84 rfl rfl rfl ?_
  refine g_icmp_eq (n := 14) (tgt := 21) ok dX5_fits_11 (by decide) rfl (fun c1 => ?_) (fun c1 => ?_)
  · rw [if_pos c1]
    refine g_iconst (n := 22) (v := 0) ok dX5_fits_21 rfl rfl ?_
    refine g_istore_n (n := 23) (lv' := [(1, vi 0), (0, vr 0)]) ok dX5_fits_22 rfl (by decide) rfl rfl ?_
    refine g_iconst (n := 24) (v := 0) ok dX5_fits_23 rfl rfl ?_
    refine g_istore_n (n := 25) (lv' := [(2, vi 0), (1, vi 0), (0, vr 0)]) ok dX5_fits_24 rfl (by decide) rfl rfl ?_
    have X25 : ∀ (x25_1 : Int32), G E 3 ((some (vi (((fX5_fits_x25 I x25_1).1))), (fX5_fits_x25 I x25_1).2)) I 57 [(1, vi x25_1)] [] := by
      intro x25_1
      rw [fX5_fits_x25]
      refine g_iload_n (n := 58) ok 0 dX5_fits_57 rfl rfl rfl ?_
      exact g_iret ok hr dX5_fits_58
    have L25 : ∀ (n25 i25 : Nat) (x25_1 : Int32) (hi : i25 + n25 = 5), G E 3 ((some (vi (((fX5_fits_x25 I (fo n25 i25 (fun (i : Nat) (s : Int32) => fX5_fits_b25 I i s) x25_1)).1))), (fX5_fits_x25 I (fo n25 i25 (fun (i : Nat) (s : Int32) => fX5_fits_b25 I i s) x25_1)).2)) I 25 [(2, vi (nI i25)), (1, vi x25_1), (0, vr 0)] [] := by
      intro n25
      induction n25 with
      | zero =>
        intro i25 x25_1 hi
        rw [fo_0]
        refine g_iload_n (n := 26) ok 0 dX5_fits_25 rfl rfl rfl ?_
        refine g_iconst (n := 27) (v := 5) ok dX5_fits_26 rfl rfl ?_
        refine g_icmp_ge (n := 30) (tgt := 57) ok dX5_fits_27 (by decide) rfl (fun c => ?_) (fun c => absurd (nle (a := 5) (b := i25) rfl rfl (by omega) (by omega)) c)
        refine g_sub [1] rfl ?_
        exact X25 _
      | succ n25 ih =>
        intro i25 x25_1 hi
        refine g_iload_n (n := 26) ok 0 dX5_fits_25 rfl rfl rfl ?_
        refine g_iconst (n := 27) (v := 5) ok dX5_fits_26 rfl rfl ?_
        refine g_icmp_ge (n := 30) (tgt := 57) ok dX5_fits_27 (by decide) rfl (fun c => absurd c (nnle (a := 5) (b := i25) rfl rfl (by omega) (by omega))) (fun c => ?_)
        rw [fo_s]
        show G E 3 ((some (vi (((fX5_fits_x25 I (fo n25 (i25 + 1) (fun (i : Nat) (s : Int32) => fX5_fits_b25 I i s) (fX5_fits_b25 I i25 x25_1))).1))), (fX5_fits_x25 I (fo n25 (i25 + 1) (fun (i : Nat) (s : Int32) => fX5_fits_b25 I i s) (fX5_fits_b25 I i25 x25_1))).2)) _ _ _ _
        rw [fX5_fits_b25]
        refine g_aload_n (n := 31) ok 2 dX5_fits_30 rfl rfl rfl ?_
        refine g_get (n := 34) (v := vr 35) (c := 5) (k := 3) ok dX5_fits_31 clsX5 (by decide) q157 rfl rfl rfl ?_
        refine g_iload_n (n := 35) ok 0 dX5_fits_34 rfl rfl rfl ?_
        refine g_aload_n (n := 36) ok 2 dX5_fits_35 rfl rfl rfl ?_
        refine g_get (n := 39) (v := vr 50) (c := 5) (k := 6) ok dX5_fits_36 clsX5 (by decide) q160 rfl rfl rfl ?_
        refine g_callV (n := 42) (rest := []) (av := [vi (nI i25), vr 50]) (j := 35) ok (kX2_marksAre I (nI i25) (by first | with_reducible assumption | omega) (by first | with_reducible assumption | omega)) knX2_marksAre q571 q572 q573 clsX2 rfl dX5_fits_39 rfl rfl (Nat.le_of_ble_eq_true rfl) (by decide) (by decide) rfl ?_
        refine g_if_eq (n := 45) (tgt := 51) ok dX5_fits_42 (by decide) rfl (fun c2 => ?_) (fun c2 => ?_)
        · rw [if_pos c2]
          refine g_iinc (n := 54) (v := nI (i25 + 1)) (lv' := [(2, vi (nI (i25 + 1))), (1, vi x25_1), (0, vr 0)]) ok 0 dX5_fits_51 rfl (iinc_n (a := i25) rfl) (by decide) rfl rfl ?_
          refine g_goto (tgt := 25) ok dX5_fits_54 (by decide) ?_
          exact ih (i25 + 1) x25_1 (by omega)
        · rw [if_neg c2]
          refine g_iload_n (n := 46) ok 1 dX5_fits_45 rfl rfl rfl ?_
          refine g_iconst (n := 47) (v := 1) ok dX5_fits_46 rfl rfl ?_
          refine g_iload_n (n := 48) ok 0 dX5_fits_47 rfl rfl rfl ?_
          refine g_ishl (n := 49) ok dX5_fits_48 rfl ?_
          refine g_ior (n := 50) ok dX5_fits_49 rfl ?_
          refine g_istore_n (n := 51) (lv' := [(1, vi (x25_1 ||| (1 <<< ((nI i25) &&& 31)))), (2, vi (nI i25)), (0, vr 0)]) ok dX5_fits_50 rfl (by decide) rfl rfl ?_
          refine g_iinc (n := 54) (v := nI (i25 + 1)) (lv' := [(2, vi (nI (i25 + 1))), (1, vi (x25_1 ||| (1 <<< ((nI i25) &&& 31)))), (0, vr 0)]) ok 1 dX5_fits_51 rfl (iinc_n (a := i25) rfl) (by decide) rfl rfl ?_
          refine g_goto (tgt := 25) ok dX5_fits_54 (by decide) ?_
          exact ih (i25 + 1) (x25_1 ||| (1 <<< ((nI i25) &&& 31))) (by omega)
    exact L25 5 0 0 (by omega)
  · rw [if_neg c1]
    refine g_aload_n (n := 15) ok 0 dX5_fits_14 rfl rfl rfl ?_
    refine g_bipush (n := 17) (v := -3) ok dX5_fits_15 rfl rfl ?_
    refine g_callV (n := 20) (rest := []) (av := [vi (-3)]) (j := 0) ok (kX5_refuse I (-3)) knX5_refuse q189 q191 qs0 clsX5 rfl dX5_fits_17 rfl rfl (Nat.le_of_ble_eq_true rfl) (by decide) (by decide) rfl ?_
    exact g_iret ok hr dX5_fits_20

noncomputable def fX5_fewest (I : HI) (what : Int32) : Int32 × HI :=
  if fX5_within what 0 1 = 0 then ((fX5_refuse I (-2)).1, ((fX5_refuse I (-2)).2)) else (if (fX2_fewestTelling I).1 = (-9) then ((fX2_fewestTelling I).1, ((fX2_fewestTelling I).2)) else (if what = 1 then ((fX2_fewestTelling I).1, ((fX2_fewestTelling I).2)) else (fJ6_bitCount_0f7a4 ((fX2_fewestTelling I).1), ((fX2_fewestTelling I).2))))
theorem knX5_fewest : Kn yX5_fewest cX5_fewest 3 (some .int) 1 := ⟨q579, q1, ⟨by decide, by decide⟩, by decide +kernel⟩
set_option maxHeartbeats 400000 in
set_option maxRecDepth 100000 in
theorem kX5_fewest (I : HI) (what : Int32) (hd : vp_in (I 1 6) 7) (hF : ∀ n, n < 6 → vp_in (I (6 + 2 * n) 0) 2) : Cx yX5_fewest cX5_fewest 3 (some .int) 5 115 [vr 0, vi what] I ((some (vi (((fX5_fewest I what).1))), (fX5_fewest I what).2)) := by
  refine Cx.mk (lv := [(0, vr 0), (1, vi what)]) (by decide) (Nat.le_of_ble_eq_true rfl) rfl (fun E ok hr => ?_)
  rw [fX5_fewest]
  refine g_iload_n (n := 1) ok 1 dX5_fewest_0 rfl rfl rfl ?_
  refine g_iconst (n := 2) (v := 0) ok dX5_fewest_1 rfl rfl ?_
  refine g_iconst (n := 3) (v := 1) ok dX5_fewest_2 rfl rfl ?_
  refine g_callS (n := 6) (rest := []) (av := [vi what, vi 0, vi 1]) ok (kX5_within I what 0 1) knX5_within q193 q194 dX5_fewest_3 rfl rfl (Nat.le_of_ble_eq_true rfl) (by decide) (by decide) rfl ?_
  refine g_if_ne (n := 9) (tgt := 16) ok dX5_fewest_6 (by decide) rfl (fun c1 => ?_) (fun c1 => ?_)
  · rw [if_neg c1]
    have ha2 : vp_in what 2 := within_in (b := 1) c1 (by omega)
    have ha2b := vb ha2
    refine g_aload_n (n := 17) ok 0 dX5_fewest_16 rfl rfl rfl ?_
    refine g_get (n := 20) (v := vr 35) (c := 5) (k := 3) ok dX5_fewest_17 clsX5 (by decide) q157 rfl rfl rfl ?_
    refine g_callV (n := 23) (rest := []) (av := []) (j := 35) ok (kX2_fewestTelling I (by first | with_reducible assumption | omega) (by first | with_reducible assumption | omega)) knX2_fewestTelling q580 q581 q582 clsX2 rfl dX5_fewest_20 rfl rfl (Nat.le_of_ble_eq_true rfl) (by decide) (by decide) rfl ?_
    refine g_istore_n (n := 24) (lv' := [(2, vi ((fX2_fewestTelling I).1)), (0, vr 0), (1, vi what)]) ok dX5_fewest_23 rfl (by decide) rfl rfl ?_
    refine g_iload_n (n := 25) ok 0 dX5_fewest_24 rfl rfl rfl ?_
    refine g_bipush (n := 27) (v := -9) ok dX5_fewest_25 rfl rfl ?_
    refine g_icmp_eq (n := 30) (tgt := 35) ok dX5_fewest_27 (by decide) rfl (fun c3 => ?_) (fun c3 => ?_)
    · rw [if_pos c3]
      refine g_iload_n (n := 36) ok 0 dX5_fewest_35 rfl rfl rfl ?_
      refine g_goto (tgt := 43) ok dX5_fewest_36 (by decide) ?_
      exact g_iret ok hr dX5_fewest_43
    · rw [if_neg c3]
      refine g_iload_n (n := 31) ok 2 dX5_fewest_30 rfl rfl rfl ?_
      refine g_iconst (n := 32) (v := 1) ok dX5_fewest_31 rfl rfl ?_
      refine g_icmp_ne (n := 35) (tgt := 39) ok dX5_fewest_32 (by decide) rfl (fun c4 => ?_) (fun c4 => ?_)
      · rw [if_neg c4]
        have hz5 := ixn (n := 1) ha2 c4 (by omega) (by omega)
        refine g_iload_n (n := 40) ok 0 dX5_fewest_39 rfl rfl rfl ?_
        refine g_callS (n := 43) (rest := []) (av := [vi ((fX2_fewestTelling I).1)]) ok (kJ6_bitCount_0f7a4 ((fX2_fewestTelling I).2) ((fX2_fewestTelling I).1)) knJ6_bitCount_0f7a4 q592 q552 dX5_fewest_40 rfl rfl (Nat.le_of_ble_eq_true rfl) (by decide) (by decide) rfl ?_
        exact g_iret ok hr dX5_fewest_43
      · rw [if_pos c4]
        have hz6 := ixe (n := 1) ha2 c4 (by omega) (by omega)
        refine g_iload_n (n := 36) ok 0 dX5_fewest_35 rfl rfl rfl ?_
        refine g_goto (tgt := 43) ok dX5_fewest_36 (by decide) ?_
        exact g_iret ok hr dX5_fewest_43
  · rw [if_pos c1]
    refine g_aload_n (n := 10) ok 0 dX5_fewest_9 rfl rfl rfl ?_
    refine g_bipush (n := 12) (v := -2) ok dX5_fewest_10 rfl rfl ?_
    refine g_callV (n := 15) (rest := []) (av := [vi (-2)]) (j := 0) ok (kX5_refuse I (-2)) knX5_refuse q189 q191 qs0 clsX5 rfl dX5_fewest_12 rfl rfl (Nat.le_of_ble_eq_true rfl) (by decide) (by decide) rfl ?_
    exact g_iret ok hr dX5_fewest_15

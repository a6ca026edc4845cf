noncomputable def fX6_feed_c5 (letter : Int32) (K5 : HI) : Int32 × HI :=
  if 0 ≤ letter then (if 255 < letter then ((fX6_refuse K5 (-6)).1, ((fX6_refuse K5 (-6)).2)) else (if K5 52 13 = 96 then ((fX6_refuse K5 (-6)).1, ((fX6_refuse K5 (-6)).2)) else (nI ((ix (K5 52 13)) + 1), (up (up K5 61 (ix (K5 52 13)) letter) 52 13 (nI ((ix (K5 52 13)) + 1)))))) else ((fX6_refuse K5 (-4)).1, ((fX6_refuse K5 (-4)).2))
noncomputable def fX6_feed (I : HI) (letter : Int32) : Int32 × HI :=
  fX6_feed_c5 letter (up I 52 10 0)
theorem knX6_feed : Kn yX6_feed cX6_feed 2 (some .int) 1 := ⟨q769, q8, ⟨by decide, by decide⟩, by decide +kernel⟩
set_option maxHeartbeats 400000 in
set_option maxRecDepth 100000 in
theorem kX6_feed (I : HI) (letter : Int32) (hm : vp_in (I 52 13) 97) : Cx yX6_feed cX6_feed 2 (some .int) 1 21 [vr 52, vi letter] I ((some (vi (((fX6_feed I letter).1))), (fX6_feed I letter).2)) := by
  refine Cx.mk (lv := [(0, vr 52), (1, vi letter)]) (by decide) (Nat.le_of_ble_eq_true rfl) rfl (fun E ok hr => ?_)
  rw [fX6_feed]
  refine g_aload_n (n := 1) ok 0 dX6_feed_0 rfl rfl rfl ?_
  refine g_iconst (n := 2) (v := 0) ok dX6_feed_1 rfl rfl ?_
  refine g_put (n := 5) (J := up I 52 10 0) (c := 6) (k := 10) ok dX6_feed_2 clsX6 tyX6 tyX6_ok nmX6 (by decide) q688 rfl rfl (fun _ => rfl) (fun _ => rfl) (Nat.le_of_ble_eq_true rfl) (fs_6_10 _ _ _) up_ne rfl ?_
  have C5_8 : ∀ (K5 : HI) (hm2 : vp_in (K5 52 13) 97), G E 2 ((some (vi (((fX6_feed_c5 letter K5).1))), (fX6_feed_c5 letter K5).2)) K5 5 [(0, vr 52), (1, vi letter)] [] := by
    intro K5 hm2
    rw [fX6_feed_c5]
    have hm3 := vb hm2
    refine g_iload_n (n := 6) ok 1 dX6_feed_5 rfl rfl rfl ?_
    refine g_if_ge (n := 9) (tgt := 16) ok dX6_feed_6 (by decide) rfl (fun c3 => ?_) (fun c3 => ?_)
    · rw [if_pos c3]
      refine g_iload_n (n := 17) ok 1 dX6_feed_16 rfl rfl rfl ?_
      refine g_sipush (n := 20) (v := 255) ok dX6_feed_17 rfl rfl ?_
      refine g_icmp_gt (n := 23) (tgt := 32) ok dX6_feed_20 (by decide) rfl (fun c4 => ?_) (fun c4 => ?_)
      · rw [if_pos c4]
        refine g_aload_n (n := 33) ok 0 dX6_feed_32 rfl rfl rfl ?_
        refine g_bipush (n := 35) (v := -6) ok dX6_feed_33 rfl rfl ?_
        refine g_callV (n := 38) (rest := []) (av := [vi (-6)]) (j := 52) ok (kX6_refuse K5 (-6) (vp_b (by decide +kernel))) knX6_refuse q770 q772 qs25 clsX6 rfl dX6_feed_35 rfl rfl (Nat.le_of_ble_eq_true rfl) (by decide) (by decide) rfl ?_
        exact g_iret ok hr dX6_feed_38
      · rw [if_neg c4]
        skip
        refine g_aload_n (n := 24) ok 0 dX6_feed_23 rfl rfl rfl ?_
        refine g_get (n := 27) (v := vi (K5 52 13)) (c := 6) (k := 13) ok dX6_feed_24 clsX6 (by decide) q691 rfl rfl rfl ?_
        refine g_bipush (n := 29) (v := 96) ok dX6_feed_27 rfl rfl ?_
        refine g_icmp_ne (n := 32) (tgt := 39) ok dX6_feed_29 (by decide) rfl (fun c5 => ?_) (fun c5 => ?_)
        · rw [if_neg c5]
          have hz6 := ixn (n := 96) hm2 c5 (by omega) (by omega)
          refine g_aload_n (n := 40) ok 0 dX6_feed_39 rfl rfl rfl ?_
          refine g_get (n := 43) (v := vr 61) (c := 6) (k := 12) ok dX6_feed_40 clsX6 (by decide) q690 rfl rfl rfl ?_
          refine g_aload_n (n := 44) ok 0 dX6_feed_43 rfl rfl rfl ?_
          refine g_get (n := 47) (v := vi (K5 52 13)) (c := 6) (k := 13) ok dX6_feed_44 clsX6 (by decide) q691 rfl rfl rfl ?_
          refine g_iload_n (n := 48) ok 1 dX6_feed_47 rfl rfl rfl ?_
          refine g_iast (n := 49) (i := ix (K5 52 13)) (L := 96) ok dX6_feed_48 rfl rfl (vx hm2) (by omega) rfl ?_
          refine g_aload_n (n := 50) ok 0 dX6_feed_49 rfl rfl rfl ?_
          refine g_dup (n := 51) ok dX6_feed_50 rfl rfl ?_
          refine g_get (n := 54) (v := vi ((up K5 61 (ix (K5 52 13)) letter) 52 13)) (c := 6) (k := 13) ok dX6_feed_51 clsX6 (by decide) q691 rfl rfl rfl ?_
          refine g_top (up_ne2 (by decide)) ?_
          refine g_iconst (n := 55) (v := 1) ok dX6_feed_54 rfl rfl ?_
          refine g_iadd (n := 56) ok dX6_feed_55 rfl ?_
          refine g_top (nv_iadd (a := ix (K5 52 13)) (b := 1) (vx hm2) rfl) ?_
          refine g_put (n := 59) (J := up (up K5 61 (ix (K5 52 13)) letter) 52 13 (nI ((ix (K5 52 13)) + 1))) (c := 6) (k := 13) ok dX6_feed_56 clsX6 tyX6 tyX6_ok nmX6 (by decide) q691 rfl rfl (fun _ => rfl) (fun _ => rfl) (Nat.le_of_ble_eq_true rfl) (fs_6_13 _ _ _) up_ne rfl ?_
          refine g_aload_n (n := 60) ok 0 dX6_feed_59 rfl rfl rfl ?_
          refine g_get (n := 63) (v := vi ((up (up K5 61 (ix (K5 52 13)) letter) 52 13 (nI ((ix (K5 52 13)) + 1))) 52 13)) (c := 6) (k := 13) ok dX6_feed_60 clsX6 (by decide) q691 rfl rfl rfl ?_
          refine g_top up_v ?_
          exact g_iret ok hr dX6_feed_63
        · rw [if_pos c5]
          have hz7 := ixe (n := 96) hm2 c5 (by omega) (by omega)
          refine g_aload_n (n := 33) ok 0 dX6_feed_32 rfl rfl rfl ?_
          refine g_bipush (n := 35) (v := -6) ok dX6_feed_33 rfl rfl ?_
          refine g_callV (n := 38) (rest := []) (av := [vi (-6)]) (j := 52) ok (kX6_refuse K5 (-6) (vp_b (by decide +kernel))) knX6_refuse q770 q772 qs25 clsX6 rfl dX6_feed_35 rfl rfl (Nat.le_of_ble_eq_true rfl) (by decide) (by decide) rfl ?_
          exact g_iret ok hr dX6_feed_38
    · rw [if_neg c3]
      refine g_aload_n (n := 10) ok 0 dX6_feed_9 rfl rfl rfl ?_
      refine g_bipush (n := 12) (v := -4) ok dX6_feed_10 rfl rfl ?_
      refine g_callV (n := 15) (rest := []) (av := [vi (-4)]) (j := 52) ok (kX6_refuse K5 (-4) (vp_b (by decide +kernel))) knX6_refuse q770 q772 qs25 clsX6 rfl dX6_feed_12 rfl rfl (Nat.le_of_ble_eq_true rfl) (by decide) (by decide) rfl ?_
      exact g_iret ok hr dX6_feed_15
  exact C5_8 _ (by rw [up_k (by omega)]; exact hm)

noncomputable def fX6_leastOf (a0 : Int32) : Int32 :=
  if a0 = 0 then 10 else 0
theorem knX6_leastOf : Kn yX6_leastOf cX6_leastOf 1 (some .int) 1 := ⟨q826, q8, ⟨by decide, by decide⟩, by decide +kernel⟩
set_option maxHeartbeats 400000 in
set_option maxRecDepth 100000 in
theorem kX6_leastOf (I : HI) (a0 : Int32) : Cx yX6_leastOf cX6_leastOf 1 (some .int) 0 0 [vi a0] I ((some (vi ((fX6_leastOf a0))), I)) := by
  refine Cx.mk (lv := [(0, vi a0)]) (by decide) (Nat.le_of_ble_eq_true rfl) rfl (fun E ok hr => ?_)
  rw [fX6_leastOf]
  refine g_iload_n (n := 1) ok 0 dX6_leastOf_0 rfl rfl rfl ?_
  refine g_if_ne (n := 4) (tgt := 9) ok dX6_leastOf_1 (by decide) rfl (fun c1 => ?_) (fun c1 => ?_)
  · rw [if_neg c1]
    refine g_iconst (n := 10) (v := 0) ok dX6_leastOf_9 rfl rfl ?_
    exact g_iret ok hr dX6_leastOf_10
  · rw [if_pos c1]
    refine g_bipush (n := 6) (v := 10) ok dX6_leastOf_4 rfl rfl ?_
    refine g_goto (tgt := 10) ok dX6_leastOf_6 (by decide) ?_
    exact g_iret ok hr dX6_leastOf_10

noncomputable def fX6_mostOf (a0 : Int32) : Int32 :=
  if a0 = 0 then 99 else (if a0 = 2 then 100 else 9)
theorem knX6_mostOf : Kn yX6_mostOf cX6_mostOf 1 (some .int) 1 := ⟨q829, q8, ⟨by decide, by decide⟩, by decide +kernel⟩
set_option maxHeartbeats 400000 in
set_option maxRecDepth 100000 in
theorem kX6_mostOf (I : HI) (a0 : Int32) : Cx yX6_mostOf cX6_mostOf 1 (some .int) 0 0 [vi a0] I ((some (vi ((fX6_mostOf a0))), I)) := by
  refine Cx.mk (lv := [(0, vi a0)]) (by decide) (Nat.le_of_ble_eq_true rfl) rfl (fun E ok hr => ?_)
  rw [fX6_mostOf]
  refine g_iload_n (n := 1) ok 0 dX6_mostOf_0 rfl rfl rfl ?_
  refine g_if_ne (n := 4) (tgt := 9) ok dX6_mostOf_1 (by decide) rfl (fun c1 => ?_) (fun c1 => ?_)
  · rw [if_neg c1]
    refine g_iload_n (n := 10) ok 0 dX6_mostOf_9 rfl rfl rfl ?_
    refine g_iconst (n := 11) (v := 2) ok dX6_mostOf_10 rfl rfl ?_
    refine g_icmp_ne (n := 14) (tgt := 19) ok dX6_mostOf_11 (by decide) rfl (fun c2 => ?_) (fun c2 => ?_)
    · rw [if_neg c2]
      refine g_bipush (n := 21) (v := 9) ok dX6_mostOf_19 rfl rfl ?_
      exact g_iret ok hr dX6_mostOf_21
    · rw [if_pos c2]
      refine g_bipush (n := 16) (v := 100) ok dX6_mostOf_14 rfl rfl ?_
      refine g_goto (tgt := 21) ok dX6_mostOf_16 (by decide) ?_
      exact g_iret ok hr dX6_mostOf_21
  · rw [if_pos c1]
    refine g_bipush (n := 6) (v := 99) ok dX6_mostOf_4 rfl rfl ?_
    refine g_goto (tgt := 21) ok dX6_mostOf_6 (by decide) ?_
    exact g_iret ok hr dX6_mostOf_21

noncomputable def fX6_ice_c5 (patch : Int32) (hour : Int32) (what : Int32) (K5 : HI) : Int32 × HI :=
  if fX6_isFoot patch = 0 then ((fX6_refuse K5 (-1)).1, ((fX6_refuse K5 (-1)).2)) else (if fX6_isHour hour = 0 then ((fX6_refuse K5 (-1)).1, ((fX6_refuse K5 (-1)).2)) else (if fX6_in what.toInt64 0 1 = 0 then ((fX6_refuse K5 (-2)).1, ((fX6_refuse K5 (-2)).2)) else (if what = 0 then (K5 53 ((12 * (ix patch)) + (ix hour)), K5) else (K5 54 ((12 * (ix patch)) + (ix hour)), K5))))
noncomputable def fX6_ice (I : HI) (patch : Int32) (hour : Int32) (what : Int32) : Int32 × HI :=
  fX6_ice_c5 patch hour what (up I 52 10 0)
theorem knX6_ice : Kn yX6_ice cX6_ice 4 (some .int) 3 := ⟨q890, q8, ⟨by decide, by decide⟩, by decide +kernel⟩
set_option maxHeartbeats 400000 in
set_option maxRecDepth 100000 in
theorem kX6_ice (I : HI) (patch : Int32) (hour : Int32) (what : Int32) : Cx yX6_ice cX6_ice 4 (some .int) 2 45 [vr 52, vi patch, vi hour, vi what] I ((some (vi (((fX6_ice I patch hour what).1))), (fX6_ice I patch hour what).2)) := by
  refine Cx.mk (lv := [(0, vr 52), (1, vi patch), (2, vi hour), (3, vi what)]) (by decide) (Nat.le_of_ble_eq_true rfl) rfl (fun E ok hr => ?_)
  rw [fX6_ice]
  refine g_aload_n (n := 1) ok 0 dX6_ice_0 rfl rfl rfl ?_
  refine g_iconst (n := 2) (v := 0) ok dX6_ice_1 rfl rfl ?_
  refine g_put (n := 5) (J := up I 52 10 0) (c := 6) (k := 10) ok dX6_ice_2 clsX6 tyX6 tyX6_ok nmX6 (by decide) q688 rfl rfl (fun _ => rfl) (fun _ => rfl) (Nat.le_of_ble_eq_true rfl) (fs_6_10 _ _ _) up_ne rfl ?_
  have C5_14 : ∀ (K5 : HI), G E 4 ((some (vi (((fX6_ice_c5 patch hour what K5).1))), (fX6_ice_c5 patch hour what K5).2)) K5 5 [(0, vr 52), (1, vi patch), (2, vi hour), (3, vi what)] [] := by
    intro K5
    rw [fX6_ice_c5]
    refine g_iload_n (n := 6) ok 1 dX6_ice_5 rfl rfl rfl ?_
    refine g_callS (n := 9) (rest := []) (av := [vi patch]) ok (kX6_isFoot K5 patch) knX6_isFoot q834 q835 dX6_ice_6 rfl rfl (Nat.le_of_ble_eq_true rfl) (by decide) (by decide) rfl ?_
    refine g_if_eq (n := 12) (tgt := 19) ok dX6_ice_9 (by decide) rfl (fun c5 => ?_) (fun c5 => ?_)
    · rw [if_pos c5]
      refine g_aload_n (n := 20) ok 0 dX6_ice_19 rfl rfl rfl ?_
      refine g_iconst (n := 21) (v := -1) ok dX6_ice_20 rfl rfl ?_
      refine g_callV (n := 24) (rest := []) (av := [vi (-1)]) (j := 52) ok (kX6_refuse K5 (-1) (vp_b (by decide +kernel))) knX6_refuse q770 q772 qs25 clsX6 rfl dX6_ice_21 rfl rfl (Nat.le_of_ble_eq_true rfl) (by decide) (by decide) rfl ?_
      exact g_iret ok hr dX6_ice_24
    · rw [if_neg c5]
      have ha6 : vp_in patch 2 := isFoot6_in c5
      have ha6b := vb ha6
      refine g_iload_n (n := 13) ok 2 dX6_ice_12 rfl rfl rfl ?_
      refine g_callS (n := 16) (rest := []) (av := [vi hour]) ok (kX6_isHour K5 hour) knX6_isHour q837 q838 dX6_ice_13 rfl rfl (Nat.le_of_ble_eq_true rfl) (by decide) (by decide) rfl ?_
      refine g_if_ne (n := 19) (tgt := 25) ok dX6_ice_16 (by decide) rfl (fun c7 => ?_) (fun c7 => ?_)
      · rw [if_neg c7]
        have ha8 : vp_in hour 12 := isHour6_in c7
        have ha8b := vb ha8
        refine g_iload_n (n := 26) ok 3 dX6_ice_25 rfl rfl rfl ?_
        refine g_i2l (n := 27) ok dX6_ice_26 rfl ?_
        refine g_lconst (n := 28) (v := 0) ok dX6_ice_27 rfl rfl ?_
        refine g_lconst (n := 29) (v := 1) ok dX6_ice_28 rfl rfl ?_
        refine g_callS (n := 32) (rest := []) (av := [vl what.toInt64, vl 0, vl 1]) ok (kX6_in K5 what.toInt64 0 1) knX6_in q792 q793 dX6_ice_29 rfl rfl (Nat.le_of_ble_eq_true rfl) (by decide) (by decide) rfl ?_
        refine g_if_ne (n := 35) (tgt := 42) ok dX6_ice_32 (by decide) rfl (fun c9 => ?_) (fun c9 => ?_)
        · rw [if_neg c9]
          have ha10 : vp_in what 2 := in6_in (b := 1) c9 (by omega)
          have ha10b := vb ha10
          refine g_iload_n (n := 43) ok 3 dX6_ice_42 rfl rfl rfl ?_
          refine g_if_ne (n := 46) (tgt := 60) ok dX6_ice_43 (by decide) rfl (fun c11 => ?_) (fun c11 => ?_)
          · rw [if_neg c11]
            have hz12 := ixn (n := 0) ha10 c11 (by omega) (by omega)
            refine g_aload_n (n := 61) ok 0 dX6_ice_60 rfl rfl rfl ?_
            refine g_get (n := 64) (v := vr 54) (c := 6) (k := 1) ok dX6_ice_61 clsX6 (by decide) q679 rfl rfl rfl ?_
            refine g_bipush (n := 66) (v := 12) ok dX6_ice_64 rfl rfl ?_
            refine g_iload_n (n := 67) ok 1 dX6_ice_66 rfl rfl rfl ?_
            refine g_imul (n := 68) ok dX6_ice_67 rfl ?_
            refine g_top (nv_imul (a := 12) (b := ix patch) rfl (vx ha6)) ?_
            refine g_iload_n (n := 69) ok 2 dX6_ice_68 rfl rfl rfl ?_
            refine g_iadd (n := 70) ok dX6_ice_69 rfl ?_
            refine g_top (nv_iadd (a := 12 * (ix patch)) (b := ix hour) rfl (vx ha8)) ?_
            refine g_iald (n := 71) (i := (12 * (ix patch)) + (ix hour)) (L := 24) ok dX6_ice_70 rfl rfl rfl (by omega) rfl ?_
            exact g_iret ok hr dX6_ice_71
          · rw [if_pos c11]
            have hz13 := ixe (n := 0) ha10 c11 (by omega) (by omega)
            refine g_aload_n (n := 47) ok 0 dX6_ice_46 rfl rfl rfl ?_
            refine g_get (n := 50) (v := vr 53) (c := 6) (k := 0) ok dX6_ice_47 clsX6 (by decide) q678 rfl rfl rfl ?_
            refine g_bipush (n := 52) (v := 12) ok dX6_ice_50 rfl rfl ?_
            refine g_iload_n (n := 53) ok 1 dX6_ice_52 rfl rfl rfl ?_
            refine g_imul (n := 54) ok dX6_ice_53 rfl ?_
            refine g_top (nv_imul (a := 12) (b := ix patch) rfl (vx ha6)) ?_
            refine g_iload_n (n := 55) ok 2 dX6_ice_54 rfl rfl rfl ?_
            refine g_iadd (n := 56) ok dX6_ice_55 rfl ?_
            refine g_top (nv_iadd (a := 12 * (ix patch)) (b := ix hour) rfl (vx ha8)) ?_
            refine g_iald (n := 57) (i := (12 * (ix patch)) + (ix hour)) (L := 24) ok dX6_ice_56 rfl rfl rfl (by omega) rfl ?_
            refine g_goto (tgt := 71) ok dX6_ice_57 (by decide) ?_
            exact g_iret ok hr dX6_ice_71
        · rw [if_pos c9]
          refine g_aload_n (n := 36) ok 0 dX6_ice_35 rfl rfl rfl ?_
          refine g_bipush (n := 38) (v := -2) ok dX6_ice_36 rfl rfl ?_
          refine g_callV (n := 41) (rest := []) (av := [vi (-2)]) (j := 52) ok (kX6_refuse K5 (-2) (vp_b (by decide +kernel))) knX6_refuse q770 q772 qs25 clsX6 rfl dX6_ice_38 rfl rfl (Nat.le_of_ble_eq_true rfl) (by decide) (by decide) rfl ?_
          exact g_iret ok hr dX6_ice_41
      · rw [if_pos c7]
        refine g_aload_n (n := 20) ok 0 dX6_ice_19 rfl rfl rfl ?_
        refine g_iconst (n := 21) (v := -1) ok dX6_ice_20 rfl rfl ?_
        refine g_callV (n := 24) (rest := []) (av := [vi (-1)]) (j := 52) ok (kX6_refuse K5 (-1) (vp_b (by decide +kernel))) knX6_refuse q770 q772 qs25 clsX6 rfl dX6_ice_21 rfl rfl (Nat.le_of_ble_eq_true rfl) (by decide) (by decide) rfl ?_
        exact g_iret ok hr dX6_ice_24
  exact C5_14 _

noncomputable def fX6_lay_c5 (patch : Int32) (hour : Int32) (what : Int32) (v : Int32) (K5 : HI) : Int32 × HI :=
  if fX6_isFoot patch = 0 then ((fX6_refuse K5 (-1)).1, ((fX6_refuse K5 (-1)).2)) else (if fX6_isHour hour = 0 then ((fX6_refuse K5 (-1)).1, ((fX6_refuse K5 (-1)).2)) else (if fX6_in what.toInt64 0 1 = 0 then ((fX6_refuse K5 (-2)).1, ((fX6_refuse K5 (-2)).2)) else (if what = 0 then (if 0 ≤ fX6_wrongNumber v 0 3 then (if what = 1 then (K5 53 ((12 * (ix patch)) + (ix hour)), (up (up K5 53 ((12 * (ix patch)) + (ix hour)) v) 54 ((12 * (ix patch)) + (ix hour)) v)) else (K5 53 ((12 * (ix patch)) + (ix hour)), (up (up K5 53 ((12 * (ix patch)) + (ix hour)) v) 54 ((12 * (ix patch)) + (ix hour)) (K5 54 ((12 * (ix patch)) + (ix hour)))))) else ((fX6_refuse K5 (fX6_wrongNumber v 0 3)).1, ((fX6_refuse K5 (fX6_wrongNumber v 0 3)).2))) else (if 0 ≤ fX6_wrongNumber v 0 99 then (if what = 1 then (K5 54 ((12 * (ix patch)) + (ix hour)), (up (up K5 53 ((12 * (ix patch)) + (ix hour)) (K5 53 ((12 * (ix patch)) + (ix hour)))) 54 ((12 * (ix patch)) + (ix hour)) v)) else (K5 54 ((12 * (ix patch)) + (ix hour)), (up (up K5 53 ((12 * (ix patch)) + (ix hour)) (K5 53 ((12 * (ix patch)) + (ix hour)))) 54 ((12 * (ix patch)) + (ix hour)) (K5 54 ((12 * (ix patch)) + (ix hour)))))) else ((fX6_refuse K5 (fX6_wrongNumber v 0 99)).1, ((fX6_refuse K5 (fX6_wrongNumber v 0 99)).2))))))
noncomputable def fX6_lay (I : HI) (patch : Int32) (hour : Int32) (what : Int32) (v : Int32) : Int32 × HI :=
  fX6_lay_c5 patch hour what v (up I 52 10 0)
theorem knX6_lay : Kn yX6_lay cX6_lay 8 (some .int) 4 := ⟨q894, q8, ⟨by decide, by decide⟩, by decide +kernel⟩
set_option maxHeartbeats 400000 in
set_option maxRecDepth 100000 in
theorem kX6_lay (I : HI) (patch : Int32) (hour : Int32) (what : Int32) (v : Int32) : Cx yX6_lay cX6_lay 8 (some .int) 2 45 [vr 52, vi patch, vi hour, vi what, vi v] I ((some (vi (((fX6_lay I patch hour what v).1))), (fX6_lay I patch hour what v).2)) := by
  refine Cx.mk (lv := [(0, vr 52), (1, vi patch), (2, vi hour), (3, vi what), (4, vi v)]) (by decide) (Nat.le_of_ble_eq_true rfl) rfl (fun E ok hr => ?_)
  rw [fX6_lay]
  refine g_aload_n (n := 1) ok 0 dX6_lay_0 rfl rfl rfl ?_
  refine g_iconst (n := 2) (v := 0) ok dX6_lay_1 rfl rfl ?_
  refine g_put (n := 5) (J := up I 52 10 0) (c := 6) (k := 10) ok dX6_lay_2 clsX6 tyX6 tyX6_ok nmX6 (by decide) q688 rfl rfl (fun _ => rfl) (fun _ => rfl) (Nat.le_of_ble_eq_true rfl) (fs_6_10 _ _ _) up_ne rfl ?_
  have C5_36 : ∀ (K5 : HI), G E 8 ((some (vi (((fX6_lay_c5 patch hour what v K5).1))), (fX6_lay_c5 patch hour what v K5).2)) K5 5 [(0, vr 52), (1, vi patch), (2, vi hour), (3, vi what), (4, vi v)] [] := by
    intro K5
    rw [fX6_lay_c5]
    refine g_iload_n (n := 6) ok 1 dX6_lay_5 rfl rfl rfl ?_
    refine g_callS (n := 9) (rest := []) (av := [vi patch]) ok (kX6_isFoot K5 patch) knX6_isFoot q834 q835 dX6_lay_6 rfl rfl (Nat.le_of_ble_eq_true rfl) (by decide) (by decide) rfl ?_
    refine g_if_eq (n := 12) (tgt := 19) ok dX6_lay_9 (by decide) rfl (fun c6 => ?_) (fun c6 => ?_)
    · rw [if_pos c6]
      refine g_iconst (n := 20) (v := -1) ok dX6_lay_19 rfl rfl ?_
      refine g_goto (tgt := 54) ok dX6_lay_20 (by decide) ?_
      refine g_istore (n := 56) (lv' := [(5, vi (-1)), (0, vr 52), (1, vi patch), (2, vi hour), (3, vi what), (4, vi v)]) ok dX6_lay_54 (by decide) rfl rfl ?_
      refine g_iload (n := 58) ok 0 dX6_lay_56 rfl rfl ?_
      refine g_if_ge (n := 61) (tgt := 68) ok dX6_lay_58 (by decide) rfl (fun c7 => ?_) (fun c7 => ?_)
      · exact absurd c7 (by decide)
      · refine g_aload_n (n := 62) ok 1 dX6_lay_61 rfl rfl rfl ?_
        refine g_iload (n := 64) ok 0 dX6_lay_62 rfl rfl ?_
        refine g_callV (n := 67) (rest := []) (av := [vi (-1)]) (j := 52) ok (kX6_refuse K5 (-1) (vp_b (by decide +kernel))) knX6_refuse q770 q772 qs25 clsX6 rfl dX6_lay_64 rfl rfl (Nat.le_of_ble_eq_true rfl) (by decide) (by decide) rfl ?_
        exact g_iret ok hr dX6_lay_67
    · rw [if_neg c6]
      have ha8 : vp_in patch 2 := isFoot6_in c6
      have ha8b := vb ha8
      refine g_iload_n (n := 13) ok 2 dX6_lay_12 rfl rfl rfl ?_
      refine g_callS (n := 16) (rest := []) (av := [vi hour]) ok (kX6_isHour K5 hour) knX6_isHour q837 q838 dX6_lay_13 rfl rfl (Nat.le_of_ble_eq_true rfl) (by decide) (by decide) rfl ?_
      refine g_if_ne (n := 19) (tgt := 23) ok dX6_lay_16 (by decide) rfl (fun c9 => ?_) (fun c9 => ?_)
      · rw [if_neg c9]
        have ha10 : vp_in hour 12 := isHour6_in c9
        have ha10b := vb ha10
        refine g_iload_n (n := 24) ok 3 dX6_lay_23 rfl rfl rfl ?_
        refine g_i2l (n := 25) ok dX6_lay_24 rfl ?_
        refine g_lconst (n := 26) (v := 0) ok dX6_lay_25 rfl rfl ?_
        refine g_lconst (n := 27) (v := 1) ok dX6_lay_26 rfl rfl ?_
        refine g_callS (n := 30) (rest := []) (av := [vl what.toInt64, vl 0, vl 1]) ok (kX6_in K5 what.toInt64 0 1) knX6_in q792 q793 dX6_lay_27 rfl rfl (Nat.le_of_ble_eq_true rfl) (by decide) (by decide) rfl ?_
        refine g_if_ne (n := 33) (tgt := 38) ok dX6_lay_30 (by decide) rfl (fun c11 => ?_) (fun c11 => ?_)
        · rw [if_neg c11]
          have ha12 : vp_in what 2 := in6_in (b := 1) c11 (by omega)
          have ha12b := vb ha12
          refine g_iload (n := 40) ok 4 dX6_lay_38 rfl rfl ?_
          refine g_iconst (n := 41) (v := 0) ok dX6_lay_40 rfl rfl ?_
          refine g_iload_n (n := 42) ok 3 dX6_lay_41 rfl rfl rfl ?_
          refine g_if_ne (n := 45) (tgt := 49) ok dX6_lay_42 (by decide) rfl (fun c13 => ?_) (fun c13 => ?_)
          · rw [if_neg c13]
            have hz14 := ixn (n := 0) ha12 c13 (by omega) (by omega)
            refine g_bipush (n := 51) (v := 99) ok dX6_lay_49 rfl rfl ?_
            refine g_callS (n := 54) (rest := []) (av := [vi v, vi 0, vi 99]) ok (kX6_wrongNumber K5 v 0 99) knX6_wrongNumber q895 q896 dX6_lay_51 rfl rfl (Nat.le_of_ble_eq_true rfl) (by decide) (by decide) rfl ?_
            refine g_istore (n := 56) (lv' := [(5, vi (fX6_wrongNumber v 0 99)), (0, vr 52), (1, vi patch), (2, vi hour), (3, vi what), (4, vi v)]) ok dX6_lay_54 (by decide) rfl rfl ?_
            refine g_iload (n := 58) ok 0 dX6_lay_56 rfl rfl ?_
            refine g_if_ge (n := 61) (tgt := 68) ok dX6_lay_58 (by decide) rfl (fun c15 => ?_) (fun c15 => ?_)
            · rw [if_pos c15]
              have ha16 : vp_in v 100 := wrongNumber_in10 (b := 99) c15 (by decide) (by omega)
              have ha16b := vb ha16
              refine g_bipush (n := 70) (v := 12) ok dX6_lay_68 rfl rfl ?_
              refine g_iload_n (n := 71) ok 2 dX6_lay_70 rfl rfl rfl ?_
              refine g_imul (n := 72) ok dX6_lay_71 rfl ?_
              refine g_top (nv_imul (a := 12) (b := ix patch) rfl (vx ha8)) ?_
              refine g_iload_n (n := 73) ok 3 dX6_lay_72 rfl rfl rfl ?_
              refine g_iadd (n := 74) ok dX6_lay_73 rfl ?_
              refine g_top (nv_iadd (a := 12 * (ix patch)) (b := ix hour) rfl (vx ha10)) ?_
              refine g_istore (n := 76) (lv' := [(6, vi (nI ((12 * (ix patch)) + (ix hour)))), (5, vi (fX6_wrongNumber v 0 99)), (0, vr 52), (1, vi patch), (2, vi hour), (3, vi what), (4, vi v)]) ok dX6_lay_74 (by decide) rfl rfl ?_
              refine g_iload_n (n := 77) ok 5 dX6_lay_76 rfl rfl rfl ?_
              refine g_if_ne (n := 80) (tgt := 90) ok dX6_lay_77 (by decide) rfl (fun c17 => ?_) (fun c17 => ?_)
              · have hz18 := ixn (n := 0) ha12 c17 (by omega) (by omega)
                refine g_aload_n (n := 91) ok 2 dX6_lay_90 rfl rfl rfl ?_
                refine g_get (n := 94) (v := vr 54) (c := 6) (k := 1) ok dX6_lay_91 clsX6 (by decide) q679 rfl rfl rfl ?_
                refine g_iload (n := 96) ok 0 dX6_lay_94 rfl rfl ?_
                refine g_iald (n := 97) (i := (12 * (ix patch)) + (ix hour)) (L := 24) ok dX6_lay_96 rfl rfl rfl (by omega) rfl ?_
                refine g_istore (n := 99) (lv' := [(7, vi (K5 54 ((12 * (ix patch)) + (ix hour)))), (6, vi (nI ((12 * (ix patch)) + (ix hour)))), (5, vi (fX6_wrongNumber v 0 99)), (0, vr 52), (1, vi patch), (2, vi hour), (3, vi what), (4, vi v)]) ok dX6_lay_97 (by decide) rfl rfl ?_
                refine g_aload_n (n := 100) ok 3 dX6_lay_99 rfl rfl rfl ?_
                refine g_get (n := 103) (v := vr 53) (c := 6) (k := 0) ok dX6_lay_100 clsX6 (by decide) q678 rfl rfl rfl ?_
                refine g_iload (n := 105) ok 1 dX6_lay_103 rfl rfl ?_
                refine g_iload_n (n := 106) ok 6 dX6_lay_105 rfl rfl rfl ?_
                refine g_if_ne (n := 109) (tgt := 114) ok dX6_lay_106 (by decide) rfl (fun c19 => ?_) (fun c19 => ?_)
                · have hz20 := ixn (n := 0) ha12 c19 (by omega) (by omega)
                  refine g_aload_n (n := 115) ok 3 dX6_lay_114 rfl rfl rfl ?_
                  refine g_get (n := 118) (v := vr 53) (c := 6) (k := 0) ok dX6_lay_115 clsX6 (by decide) q678 rfl rfl rfl ?_
                  refine g_iload (n := 120) ok 1 dX6_lay_118 rfl rfl ?_
                  refine g_iald (n := 121) (i := (12 * (ix patch)) + (ix hour)) (L := 24) ok dX6_lay_120 rfl rfl rfl (by omega) rfl ?_
                  refine g_iast (n := 122) (i := (12 * (ix patch)) + (ix hour)) (L := 24) ok dX6_lay_121 rfl rfl rfl (by omega) rfl ?_
                  refine g_aload_n (n := 123) ok 3 dX6_lay_122 rfl rfl rfl ?_
                  refine g_get (n := 126) (v := vr 54) (c := 6) (k := 1) ok dX6_lay_123 clsX6 (by decide) q679 rfl rfl rfl ?_
                  refine g_iload (n := 128) ok 1 dX6_lay_126 rfl rfl ?_
                  refine g_iload_n (n := 129) ok 6 dX6_lay_128 rfl rfl rfl ?_
                  refine g_iconst (n := 130) (v := 1) ok dX6_lay_129 rfl rfl ?_
                  refine g_icmp_ne (n := 133) (tgt := 138) ok dX6_lay_130 (by decide) rfl (fun c21 => ?_) (fun c21 => ?_)
                  · rw [if_neg c21]
                    have hz22 := ixn (n := 1) ha12 c21 (by omega) (by omega)
                    refine g_aload_n (n := 139) ok 3 dX6_lay_138 rfl rfl rfl ?_
                    refine g_get (n := 142) (v := vr 54) (c := 6) (k := 1) ok dX6_lay_139 clsX6 (by decide) q679 rfl rfl rfl ?_
                    refine g_iload (n := 144) ok 1 dX6_lay_142 rfl rfl ?_
                    refine g_iald (n := 145) (i := (12 * (ix patch)) + (ix hour)) (L := 24) ok dX6_lay_144 rfl rfl rfl (by omega) rfl ?_
                    refine g_top (up_ne2 (by decide)) ?_
                    refine g_iast (n := 146) (i := (12 * (ix patch)) + (ix hour)) (L := 24) ok dX6_lay_145 rfl rfl rfl (by omega) rfl ?_
                    refine g_iload (n := 148) ok 0 dX6_lay_146 rfl rfl ?_
                    exact g_iret ok hr dX6_lay_148
                  · rw [if_pos c21]
                    have hz23 := ixe (n := 1) ha12 c21 (by omega) (by omega)
                    refine g_iload (n := 135) ok 7 dX6_lay_133 rfl rfl ?_
                    refine g_goto (tgt := 145) ok dX6_lay_135 (by decide) ?_
                    refine g_iast (n := 146) (i := (12 * (ix patch)) + (ix hour)) (L := 24) ok dX6_lay_145 rfl rfl rfl (by omega) rfl ?_
                    refine g_iload (n := 148) ok 0 dX6_lay_146 rfl rfl ?_
                    exact g_iret ok hr dX6_lay_148
                · exact absurd c19 c17
              · exact absurd c17 c13
            · rw [if_neg c15]
              refine g_aload_n (n := 62) ok 1 dX6_lay_61 rfl rfl rfl ?_
              refine g_iload (n := 64) ok 0 dX6_lay_62 rfl rfl ?_
              refine g_callV (n := 67) (rest := []) (av := [vi (fX6_wrongNumber v 0 99)]) (j := 52) ok (kX6_refuse K5 (fX6_wrongNumber v 0 99) wrongNumber_in) knX6_refuse q770 q772 qs25 clsX6 rfl dX6_lay_64 rfl rfl (Nat.le_of_ble_eq_true rfl) (by decide) (by decide) rfl ?_
              exact g_iret ok hr dX6_lay_67
          · rw [if_pos c13]
            have hz24 := ixe (n := 0) ha12 c13 (by omega) (by omega)
            refine g_iconst (n := 46) (v := 3) ok dX6_lay_45 rfl rfl ?_
            refine g_goto (tgt := 51) ok dX6_lay_46 (by decide) ?_
            refine g_callS (n := 54) (rest := []) (av := [vi v, vi 0, vi 3]) ok (kX6_wrongNumber K5 v 0 3) knX6_wrongNumber q895 q896 dX6_lay_51 rfl rfl (Nat.le_of_ble_eq_true rfl) (by decide) (by decide) rfl ?_
            refine g_istore (n := 56) (lv' := [(5, vi (fX6_wrongNumber v 0 3)), (0, vr 52), (1, vi patch), (2, vi hour), (3, vi what), (4, vi v)]) ok dX6_lay_54 (by decide) rfl rfl ?_
            refine g_iload (n := 58) ok 0 dX6_lay_56 rfl rfl ?_
            refine g_if_ge (n := 61) (tgt := 68) ok dX6_lay_58 (by decide) rfl (fun c25 => ?_) (fun c25 => ?_)
            · rw [if_pos c25]
              have ha26 : vp_in v 4 := wrongNumber_in10 (b := 3) c25 (by decide) (by omega)
              have ha26b := vb ha26
              refine g_bipush (n := 70) (v := 12) ok dX6_lay_68 rfl rfl ?_
              refine g_iload_n (n := 71) ok 2 dX6_lay_70 rfl rfl rfl ?_
              refine g_imul (n := 72) ok dX6_lay_71 rfl ?_
              refine g_top (nv_imul (a := 12) (b := ix patch) rfl (vx ha8)) ?_
              refine g_iload_n (n := 73) ok 3 dX6_lay_72 rfl rfl rfl ?_
              refine g_iadd (n := 74) ok dX6_lay_73 rfl ?_
              refine g_top (nv_iadd (a := 12 * (ix patch)) (b := ix hour) rfl (vx ha10)) ?_
              refine g_istore (n := 76) (lv' := [(6, vi (nI ((12 * (ix patch)) + (ix hour)))), (5, vi (fX6_wrongNumber v 0 3)), (0, vr 52), (1, vi patch), (2, vi hour), (3, vi what), (4, vi v)]) ok dX6_lay_74 (by decide) rfl rfl ?_
              refine g_iload_n (n := 77) ok 5 dX6_lay_76 rfl rfl rfl ?_
              refine g_if_ne (n := 80) (tgt := 90) ok dX6_lay_77 (by decide) rfl (fun c27 => ?_) (fun c27 => ?_)
              · exact absurd c13 c27
              · have hz28 := ixe (n := 0) ha12 c27 (by omega) (by omega)
                refine g_aload_n (n := 81) ok 2 dX6_lay_80 rfl rfl rfl ?_
                refine g_get (n := 84) (v := vr 53) (c := 6) (k := 0) ok dX6_lay_81 clsX6 (by decide) q678 rfl rfl rfl ?_
                refine g_iload (n := 86) ok 0 dX6_lay_84 rfl rfl ?_
                refine g_iald (n := 87) (i := (12 * (ix patch)) + (ix hour)) (L := 24) ok dX6_lay_86 rfl rfl rfl (by omega) rfl ?_
                refine g_goto (tgt := 97) ok dX6_lay_87 (by decide) ?_
                refine g_istore (n := 99) (lv' := [(7, vi (K5 53 ((12 * (ix patch)) + (ix hour)))), (6, vi (nI ((12 * (ix patch)) + (ix hour)))), (5, vi (fX6_wrongNumber v 0 3)), (0, vr 52), (1, vi patch), (2, vi hour), (3, vi what), (4, vi v)]) ok dX6_lay_97 (by decide) rfl rfl ?_
                refine g_aload_n (n := 100) ok 3 dX6_lay_99 rfl rfl rfl ?_
                refine g_get (n := 103) (v := vr 53) (c := 6) (k := 0) ok dX6_lay_100 clsX6 (by decide) q678 rfl rfl rfl ?_
                refine g_iload (n := 105) ok 1 dX6_lay_103 rfl rfl ?_
                refine g_iload_n (n := 106) ok 6 dX6_lay_105 rfl rfl rfl ?_
                refine g_if_ne (n := 109) (tgt := 114) ok dX6_lay_106 (by decide) rfl (fun c29 => ?_) (fun c29 => ?_)
                · exact absurd c27 c29
                · have hz30 := ixe (n := 0) ha12 c29 (by omega) (by omega)
                  refine g_iload (n := 111) ok 7 dX6_lay_109 rfl rfl ?_
                  refine g_goto (tgt := 121) ok dX6_lay_111 (by decide) ?_
                  refine g_iast (n := 122) (i := (12 * (ix patch)) + (ix hour)) (L := 24) ok dX6_lay_121 rfl rfl rfl (by omega) rfl ?_
                  refine g_aload_n (n := 123) ok 3 dX6_lay_122 rfl rfl rfl ?_
                  refine g_get (n := 126) (v := vr 54) (c := 6) (k := 1) ok dX6_lay_123 clsX6 (by decide) q679 rfl rfl rfl ?_
                  refine g_iload (n := 128) ok 1 dX6_lay_126 rfl rfl ?_
                  refine g_iload_n (n := 129) ok 6 dX6_lay_128 rfl rfl rfl ?_
                  refine g_iconst (n := 130) (v := 1) ok dX6_lay_129 rfl rfl ?_
                  refine g_icmp_ne (n := 133) (tgt := 138) ok dX6_lay_130 (by decide) rfl (fun c31 => ?_) (fun c31 => ?_)
                  · rw [if_neg c31]
                    have hz32 := ixn (n := 1) ha12 c31 (by omega) (by omega)
                    refine g_aload_n (n := 139) ok 3 dX6_lay_138 rfl rfl rfl ?_
                    refine g_get (n := 142) (v := vr 54) (c := 6) (k := 1) ok dX6_lay_139 clsX6 (by decide) q679 rfl rfl rfl ?_
                    refine g_iload (n := 144) ok 1 dX6_lay_142 rfl rfl ?_
                    refine g_iald (n := 145) (i := (12 * (ix patch)) + (ix hour)) (L := 24) ok dX6_lay_144 rfl rfl rfl (by omega) rfl ?_
                    refine g_top (up_ne2 (by decide)) ?_
                    refine g_iast (n := 146) (i := (12 * (ix patch)) + (ix hour)) (L := 24) ok dX6_lay_145 rfl rfl rfl (by omega) rfl ?_
                    refine g_iload (n := 148) ok 0 dX6_lay_146 rfl rfl ?_
                    exact g_iret ok hr dX6_lay_148
                  · rw [if_pos c31]
                    have hz33 := ixe (n := 1) ha12 c31 (by omega) (by omega)
                    refine g_iload (n := 135) ok 7 dX6_lay_133 rfl rfl ?_
                    refine g_goto (tgt := 145) ok dX6_lay_135 (by decide) ?_
                    refine g_iast (n := 146) (i := (12 * (ix patch)) + (ix hour)) (L := 24) ok dX6_lay_145 rfl rfl rfl (by omega) rfl ?_
                    refine g_iload (n := 148) ok 0 dX6_lay_146 rfl rfl ?_
                    exact g_iret ok hr dX6_lay_148
            · rw [if_neg c25]
              refine g_aload_n (n := 62) ok 1 dX6_lay_61 rfl rfl rfl ?_
              refine g_iload (n := 64) ok 0 dX6_lay_62 rfl rfl ?_
              refine g_callV (n := 67) (rest := []) (av := [vi (fX6_wrongNumber v 0 3)]) (j := 52) ok (kX6_refuse K5 (fX6_wrongNumber v 0 3) wrongNumber_in) knX6_refuse q770 q772 qs25 clsX6 rfl dX6_lay_64 rfl rfl (Nat.le_of_ble_eq_true rfl) (by decide) (by decide) rfl ?_
              exact g_iret ok hr dX6_lay_67
        · rw [if_pos c11]
          refine g_bipush (n := 35) (v := -2) ok dX6_lay_33 rfl rfl ?_
          refine g_goto (tgt := 54) ok dX6_lay_35 (by decide) ?_
          refine g_istore (n := 56) (lv' := [(5, vi (-2)), (0, vr 52), (1, vi patch), (2, vi hour), (3, vi what), (4, vi v)]) ok dX6_lay_54 (by decide) rfl rfl ?_
          refine g_iload (n := 58) ok 0 dX6_lay_56 rfl rfl ?_
          refine g_if_ge (n := 61) (tgt := 68) ok dX6_lay_58 (by decide) rfl (fun c34 => ?_) (fun c34 => ?_)
          · exact absurd c34 (by decide)
          · refine g_aload_n (n := 62) ok 1 dX6_lay_61 rfl rfl rfl ?_
            refine g_iload (n := 64) ok 0 dX6_lay_62 rfl rfl ?_
            refine g_callV (n := 67) (rest := []) (av := [vi (-2)]) (j := 52) ok (kX6_refuse K5 (-2) (vp_b (by decide +kernel))) knX6_refuse q770 q772 qs25 clsX6 rfl dX6_lay_64 rfl rfl (Nat.le_of_ble_eq_true rfl) (by decide) (by decide) rfl ?_
            exact g_iret ok hr dX6_lay_67
      · rw [if_pos c9]
        refine g_iconst (n := 20) (v := -1) ok dX6_lay_19 rfl rfl ?_
        refine g_goto (tgt := 54) ok dX6_lay_20 (by decide) ?_
        refine g_istore (n := 56) (lv' := [(5, vi (-1)), (0, vr 52), (1, vi patch), (2, vi hour), (3, vi what), (4, vi v)]) ok dX6_lay_54 (by decide) rfl rfl ?_
        refine g_iload (n := 58) ok 0 dX6_lay_56 rfl rfl ?_
        refine g_if_ge (n := 61) (tgt := 68) ok dX6_lay_58 (by decide) rfl (fun c35 => ?_) (fun c35 => ?_)
        · exact absurd c35 (by decide)
        · refine g_aload_n (n := 62) ok 1 dX6_lay_61 rfl rfl rfl ?_
          refine g_iload (n := 64) ok 0 dX6_lay_62 rfl rfl ?_
          refine g_callV (n := 67) (rest := []) (av := [vi (-1)]) (j := 52) ok (kX6_refuse K5 (-1) (vp_b (by decide +kernel))) knX6_refuse q770 q772 qs25 clsX6 rfl dX6_lay_64 rfl rfl (Nat.le_of_ble_eq_true rfl) (by decide) (by decide) rfl ?_
          exact g_iret ok hr dX6_lay_67
  exact C5_36 _

noncomputable def fX6_set_c5 (setting : Int32) (v : Int32) (K5 : HI) : Int32 × HI :=
  if fX6_in setting.toInt64 0 4 = 0 then ((fX6_refuse K5 (-1)).1, ((fX6_refuse K5 (-1)).2)) else (if 0 ≤ fX6_wrongNumber v (fX6_leastOf setting) (fX6_mostOf setting) then (K5 55 (ix setting), (up K5 55 (ix setting) v)) else ((fX6_refuse K5 (fX6_wrongNumber v (fX6_leastOf setting) (fX6_mostOf setting))).1, ((fX6_refuse K5 (fX6_wrongNumber v (fX6_leastOf setting) (fX6_mostOf setting))).2)))
noncomputable def fX6_set (I : HI) (setting : Int32) (v : Int32) : Int32 × HI :=
  fX6_set_c5 setting v (up I 52 10 0)
theorem knX6_set : Kn yX6_set cX6_set 5 (some .int) 2 := ⟨q901, q8, ⟨by decide, by decide⟩, by decide +kernel⟩
set_option maxHeartbeats 400000 in
set_option maxRecDepth 100000 in
theorem kX6_set (I : HI) (setting : Int32) (v : Int32) : Cx yX6_set cX6_set 5 (some .int) 1 25 [vr 52, vi setting, vi v] I ((some (vi (((fX6_set I setting v).1))), (fX6_set I setting v).2)) := by
  refine Cx.mk (lv := [(0, vr 52), (1, vi setting), (2, vi v)]) (by decide) (Nat.le_of_ble_eq_true rfl) rfl (fun E ok hr => ?_)
  rw [fX6_set]
  refine g_aload_n (n := 1) ok 0 dX6_set_0 rfl rfl rfl ?_
  refine g_iconst (n := 2) (v := 0) ok dX6_set_1 rfl rfl ?_
  refine g_put (n := 5) (J := up I 52 10 0) (c := 6) (k := 10) ok dX6_set_2 clsX6 tyX6 tyX6_ok nmX6 (by decide) q688 rfl rfl (fun _ => rfl) (fun _ => rfl) (Nat.le_of_ble_eq_true rfl) (fs_6_10 _ _ _) up_ne rfl ?_
  have C5_8 : ∀ (K5 : HI), G E 5 ((some (vi (((fX6_set_c5 setting v K5).1))), (fX6_set_c5 setting v K5).2)) K5 5 [(0, vr 52), (1, vi setting), (2, vi v)] [] := by
    intro K5
    rw [fX6_set_c5]
    refine g_iload_n (n := 6) ok 1 dX6_set_5 rfl rfl rfl ?_
    refine g_i2l (n := 7) ok dX6_set_6 rfl ?_
    refine g_lconst (n := 8) (v := 0) ok dX6_set_7 rfl rfl ?_
    refine g_ldc2_w (n := 11) ok dX6_set_8 q823 rfl ?_
    refine g_callS (n := 14) (rest := []) (av := [vl setting.toInt64, vl 0, vl 4]) ok (kX6_in K5 setting.toInt64 0 4) knX6_in q792 q793 dX6_set_11 rfl rfl (Nat.le_of_ble_eq_true rfl) (by decide) (by decide) rfl ?_
    refine g_if_eq (n := 17) (tgt := 32) ok dX6_set_14 (by decide) rfl (fun c4 => ?_) (fun c4 => ?_)
    · rw [if_pos c4]
      refine g_iconst (n := 33) (v := -1) ok dX6_set_32 rfl rfl ?_
      refine g_istore_n (n := 34) (lv' := [(3, vi (-1)), (0, vr 52), (1, vi setting), (2, vi v)]) ok dX6_set_33 rfl (by decide) rfl rfl ?_
      refine g_iload_n (n := 35) ok 0 dX6_set_34 rfl rfl rfl ?_
      refine g_if_ge (n := 38) (tgt := 44) ok dX6_set_35 (by decide) rfl (fun c5 => ?_) (fun c5 => ?_)
      · exact absurd c5 (by decide)
      · refine g_aload_n (n := 39) ok 1 dX6_set_38 rfl rfl rfl ?_
        refine g_iload_n (n := 40) ok 0 dX6_set_39 rfl rfl rfl ?_
        refine g_callV (n := 43) (rest := []) (av := [vi (-1)]) (j := 52) ok (kX6_refuse K5 (-1) (vp_b (by decide +kernel))) knX6_refuse q770 q772 qs25 clsX6 rfl dX6_set_40 rfl rfl (Nat.le_of_ble_eq_true rfl) (by decide) (by decide) rfl ?_
        exact g_iret ok hr dX6_set_43
    · rw [if_neg c4]
      have ha6 : vp_in setting 5 := in6_in (b := 4) c4 (by omega)
      have ha6b := vb ha6
      refine g_iload_n (n := 18) ok 2 dX6_set_17 rfl rfl rfl ?_
      refine g_iload_n (n := 19) ok 1 dX6_set_18 rfl rfl rfl ?_
      refine g_callS (n := 22) (rest := [vi v]) (av := [vi setting]) ok (kX6_leastOf K5 setting) knX6_leastOf q824 q825 dX6_set_19 rfl rfl (Nat.le_of_ble_eq_true rfl) (by decide) (by decide) rfl ?_
      refine g_iload_n (n := 23) ok 1 dX6_set_22 rfl rfl rfl ?_
      refine g_callS (n := 26) (rest := [vi (fX6_leastOf setting), vi v]) (av := [vi setting]) ok (kX6_mostOf K5 setting) knX6_mostOf q827 q828 dX6_set_23 rfl rfl (Nat.le_of_ble_eq_true rfl) (by decide) (by decide) rfl ?_
      refine g_callS (n := 29) (rest := []) (av := [vi v, vi (fX6_leastOf setting), vi (fX6_mostOf setting)]) ok (kX6_wrongNumber K5 v (fX6_leastOf setting) (fX6_mostOf setting)) knX6_wrongNumber q895 q896 dX6_set_26 rfl rfl (Nat.le_of_ble_eq_true rfl) (by decide) (by decide) rfl ?_
      refine g_goto (tgt := 33) ok dX6_set_29 (by decide) ?_
      refine g_istore_n (n := 34) (lv' := [(3, vi (fX6_wrongNumber v (fX6_leastOf setting) (fX6_mostOf setting))), (0, vr 52), (1, vi setting), (2, vi v)]) ok dX6_set_33 rfl (by decide) rfl rfl ?_
      refine g_iload_n (n := 35) ok 0 dX6_set_34 rfl rfl rfl ?_
      refine g_if_ge (n := 38) (tgt := 44) ok dX6_set_35 (by decide) rfl (fun c7 => ?_) (fun c7 => ?_)
      · rw [if_pos c7]
        refine g_aload_n (n := 45) ok 1 dX6_set_44 rfl rfl rfl ?_
        refine g_get (n := 48) (v := vr 55) (c := 6) (k := 2) ok dX6_set_45 clsX6 (by decide) q680 rfl rfl rfl ?_
        refine g_iload_n (n := 49) ok 2 dX6_set_48 rfl rfl rfl ?_
        refine g_iald (n := 50) (i := ix setting) (L := 5) ok dX6_set_49 rfl rfl (vx ha6) (by omega) rfl ?_
        refine g_istore (n := 52) (lv' := [(4, vi (K5 55 (ix setting))), (3, vi (fX6_wrongNumber v (fX6_leastOf setting) (fX6_mostOf setting))), (0, vr 52), (1, vi setting), (2, vi v)]) ok dX6_set_50 (by decide) rfl rfl ?_
        refine g_aload_n (n := 53) ok 2 dX6_set_52 rfl rfl rfl ?_
        refine g_get (n := 56) (v := vr 55) (c := 6) (k := 2) ok dX6_set_53 clsX6 (by decide) q680 rfl rfl rfl ?_
        refine g_iload_n (n := 57) ok 3 dX6_set_56 rfl rfl rfl ?_
        refine g_iload_n (n := 58) ok 4 dX6_set_57 rfl rfl rfl ?_
        refine g_iast (n := 59) (i := ix setting) (L := 5) ok dX6_set_58 rfl rfl (vx ha6) (by omega) rfl ?_
        refine g_iload (n := 61) ok 0 dX6_set_59 rfl rfl ?_
        exact g_iret ok hr dX6_set_61
      · rw [if_neg c7]
        refine g_aload_n (n := 39) ok 1 dX6_set_38 rfl rfl rfl ?_
        refine g_iload_n (n := 40) ok 0 dX6_set_39 rfl rfl rfl ?_
        refine g_callV (n := 43) (rest := []) (av := [vi (fX6_wrongNumber v (fX6_leastOf setting) (fX6_mostOf setting))]) (j := 52) ok (kX6_refuse K5 (fX6_wrongNumber v (fX6_leastOf setting) (fX6_mostOf setting)) wrongNumber_in) knX6_refuse q770 q772 qs25 clsX6 rfl dX6_set_40 rfl rfl (Nat.le_of_ble_eq_true rfl) (by decide) (by decide) rfl ?_
        exact g_iret ok hr dX6_set_43
  exact C5_8 _

noncomputable def fX6_skater_c5 (kind : Int32) (figure : Int32) (K5 : HI) : Int32 × HI :=
  if fX6_in kind.toInt64 0 6 = 0 then ((fX6_refuse K5 (-2)).1, ((fX6_refuse K5 (-2)).2)) else (if 0 ≤ fX6_wrongNumber figure 0 9 then ((10 * (K5 52 3)) + (K5 52 4), (up (up K5 52 3 kind) 52 4 figure)) else ((fX6_refuse K5 (fX6_wrongNumber figure 0 9)).1, ((fX6_refuse K5 (fX6_wrongNumber figure 0 9)).2)))
noncomputable def fX6_skater (I : HI) (kind : Int32) (figure : Int32) : Int32 × HI :=
  fX6_skater_c5 kind figure (up I 52 10 0)
theorem knX6_skater : Kn yX6_skater cX6_skater 5 (some .int) 2 := ⟨q905, q8, ⟨by decide, by decide⟩, by decide +kernel⟩
set_option maxHeartbeats 400000 in
set_option maxRecDepth 100000 in
theorem kX6_skater (I : HI) (kind : Int32) (figure : Int32) : Cx yX6_skater cX6_skater 5 (some .int) 1 25 [vr 52, vi kind, vi figure] I ((some (vi (((fX6_skater I kind figure).1))), (fX6_skater I kind figure).2)) := by
  refine Cx.mk (lv := [(0, vr 52), (1, vi kind), (2, vi figure)]) (by decide) (Nat.le_of_ble_eq_true rfl) rfl (fun E ok hr => ?_)
  rw [fX6_skater]
  refine g_aload_n (n := 1) ok 0 dX6_skater_0 rfl rfl rfl ?_
  refine g_iconst (n := 2) (v := 0) ok dX6_skater_1 rfl rfl ?_
  refine g_put (n := 5) (J := up I 52 10 0) (c := 6) (k := 10) ok dX6_skater_2 clsX6 tyX6 tyX6_ok nmX6 (by decide) q688 rfl rfl (fun _ => rfl) (fun _ => rfl) (Nat.le_of_ble_eq_true rfl) (fs_6_10 _ _ _) up_ne rfl ?_
  have C5_9 : ∀ (K5 : HI), G E 5 ((some (vi (((fX6_skater_c5 kind figure K5).1))), (fX6_skater_c5 kind figure K5).2)) K5 5 [(0, vr 52), (1, vi kind), (2, vi figure)] [] := by
    intro K5
    rw [fX6_skater_c5]
    refine g_iload_n (n := 6) ok 1 dX6_skater_5 rfl rfl rfl ?_
    refine g_i2l (n := 7) ok dX6_skater_6 rfl ?_
    refine g_lconst (n := 8) (v := 0) ok dX6_skater_7 rfl rfl ?_
    refine g_ldc2_w (n := 11) ok dX6_skater_8 q906 rfl ?_
    refine g_callS (n := 14) (rest := []) (av := [vl kind.toInt64, vl 0, vl 6]) ok (kX6_in K5 kind.toInt64 0 6) knX6_in q792 q793 dX6_skater_11 rfl rfl (Nat.le_of_ble_eq_true rfl) (by decide) (by decide) rfl ?_
    refine g_if_eq (n := 17) (tgt := 27) ok dX6_skater_14 (by decide) rfl (fun c4 => ?_) (fun c4 => ?_)
    · rw [if_pos c4]
      refine g_bipush (n := 29) (v := -2) ok dX6_skater_27 rfl rfl ?_
      refine g_istore_n (n := 30) (lv' := [(3, vi (-2)), (0, vr 52), (1, vi kind), (2, vi figure)]) ok dX6_skater_29 rfl (by decide) rfl rfl ?_
      refine g_iload_n (n := 31) ok 0 dX6_skater_30 rfl rfl rfl ?_
      refine g_if_ge (n := 34) (tgt := 40) ok dX6_skater_31 (by decide) rfl (fun c5 => ?_) (fun c5 => ?_)
      · exact absurd c5 (by decide)
      · refine g_aload_n (n := 35) ok 1 dX6_skater_34 rfl rfl rfl ?_
        refine g_iload_n (n := 36) ok 0 dX6_skater_35 rfl rfl rfl ?_
        refine g_callV (n := 39) (rest := []) (av := [vi (-2)]) (j := 52) ok (kX6_refuse K5 (-2) (vp_b (by decide +kernel))) knX6_refuse q770 q772 qs25 clsX6 rfl dX6_skater_36 rfl rfl (Nat.le_of_ble_eq_true rfl) (by decide) (by decide) rfl ?_
        exact g_iret ok hr dX6_skater_39
    · rw [if_neg c4]
      have ha6 : vp_in kind 7 := in6_in (b := 6) c4 (by omega)
      have ha6b := vb ha6
      refine g_iload_n (n := 18) ok 2 dX6_skater_17 rfl rfl rfl ?_
      refine g_iconst (n := 19) (v := 0) ok dX6_skater_18 rfl rfl ?_
      refine g_bipush (n := 21) (v := 9) ok dX6_skater_19 rfl rfl ?_
      refine g_callS (n := 24) (rest := []) (av := [vi figure, vi 0, vi 9]) ok (kX6_wrongNumber K5 figure 0 9) knX6_wrongNumber q895 q896 dX6_skater_21 rfl rfl (Nat.le_of_ble_eq_true rfl) (by decide) (by decide) rfl ?_
      refine g_goto (tgt := 29) ok dX6_skater_24 (by decide) ?_
      refine g_istore_n (n := 30) (lv' := [(3, vi (fX6_wrongNumber figure 0 9)), (0, vr 52), (1, vi kind), (2, vi figure)]) ok dX6_skater_29 rfl (by decide) rfl rfl ?_
      refine g_iload_n (n := 31) ok 0 dX6_skater_30 rfl rfl rfl ?_
      refine g_if_ge (n := 34) (tgt := 40) ok dX6_skater_31 (by decide) rfl (fun c7 => ?_) (fun c7 => ?_)
      · rw [if_pos c7]
        have ha8 : vp_in figure 10 := wrongNumber_in10 (b := 9) c7 (by decide) (by omega)
        have ha8b := vb ha8
        refine g_bipush (n := 42) (v := 10) ok dX6_skater_40 rfl rfl ?_
        refine g_aload_n (n := 43) ok 1 dX6_skater_42 rfl rfl rfl ?_
        refine g_get (n := 46) (v := vi (K5 52 3)) (c := 6) (k := 3) ok dX6_skater_43 clsX6 (by decide) q681 rfl rfl rfl ?_
        refine g_imul (n := 47) ok dX6_skater_46 rfl ?_
        refine g_aload_n (n := 48) ok 1 dX6_skater_47 rfl rfl rfl ?_
        refine g_get (n := 51) (v := vi (K5 52 4)) (c := 6) (k := 4) ok dX6_skater_48 clsX6 (by decide) q682 rfl rfl rfl ?_
        refine g_iadd (n := 52) ok dX6_skater_51 rfl ?_
        refine g_istore (n := 54) (lv' := [(4, vi ((10 * (K5 52 3)) + (K5 52 4))), (3, vi (fX6_wrongNumber figure 0 9)), (0, vr 52), (1, vi kind), (2, vi figure)]) ok dX6_skater_52 (by decide) rfl rfl ?_
        refine g_aload_n (n := 55) ok 2 dX6_skater_54 rfl rfl rfl ?_
        refine g_iload_n (n := 56) ok 3 dX6_skater_55 rfl rfl rfl ?_
        refine g_put (n := 59) (J := up K5 52 3 kind) (c := 6) (k := 3) ok dX6_skater_56 clsX6 tyX6 tyX6_ok nmX6 (by decide) q681 rfl rfl (fun _ => rfl) (fun _ => rfl) (Nat.le_of_ble_eq_true rfl) (fs_6_3 _ _ _) up_ne rfl ?_
        refine g_aload_n (n := 60) ok 2 dX6_skater_59 rfl rfl rfl ?_
        refine g_iload_n (n := 61) ok 4 dX6_skater_60 rfl rfl rfl ?_
        refine g_put (n := 64) (J := up (up K5 52 3 kind) 52 4 figure) (c := 6) (k := 4) ok dX6_skater_61 clsX6 tyX6 tyX6_ok nmX6 (by decide) q682 rfl rfl (fun _ => rfl) (fun _ => rfl) (Nat.le_of_ble_eq_true rfl) (fs_6_4 _ _ _) up_ne rfl ?_
        refine g_iload (n := 66) ok 0 dX6_skater_64 rfl rfl ?_
        exact g_iret ok hr dX6_skater_66
      · rw [if_neg c7]
        refine g_aload_n (n := 35) ok 1 dX6_skater_34 rfl rfl rfl ?_
        refine g_iload_n (n := 36) ok 0 dX6_skater_35 rfl rfl rfl ?_
        refine g_callV (n := 39) (rest := []) (av := [vi (fX6_wrongNumber figure 0 9)]) (j := 52) ok (kX6_refuse K5 (fX6_wrongNumber figure 0 9) wrongNumber_in) knX6_refuse q770 q772 qs25 clsX6 rfl dX6_skater_36 rfl rfl (Nat.le_of_ble_eq_true rfl) (by decide) (by decide) rfl ?_
        exact g_iret ok hr dX6_skater_39
  exact C5_9 _

noncomputable def fX6_draw_c5 (foot : Int32) (push : Int32) (lean : Int32) (K5 : HI) : Int32 × HI :=
  if fX6_isFoot foot = 0 then ((fX6_refuse K5 (-1)).1, ((fX6_refuse K5 (-1)).2)) else (if fX6_wrongTwo push lean = 0 then (if K5 52 5 = 6 then ((fX6_refuse K5 (-6)).1, ((fX6_refuse K5 (-6)).2)) else (nI ((fX6_drawBy K5 (K5 52 3) (ix foot) push lean).1), ((fX6_drawBy K5 (K5 52 3) (ix foot) push lean).2))) else ((fX6_refuse K5 (fX6_wrongTwo push lean)).1, ((fX6_refuse K5 (fX6_wrongTwo push lean)).2)))
noncomputable def fX6_draw (I : HI) (foot : Int32) (push : Int32) (lean : Int32) : Int32 × HI :=
  fX6_draw_c5 foot push lean (up I 52 10 0)
theorem knX6_draw : Kn yX6_draw cX6_draw 5 (some .int) 3 := ⟨q910, q8, ⟨by decide, by decide⟩, by decide +kernel⟩
set_option maxHeartbeats 400000 in
set_option maxRecDepth 100000 in
theorem kX6_draw (I : HI) (foot : Int32) (push : Int32) (lean : Int32) (hd : vp_in (I 52 5) 7) : Cx yX6_draw cX6_draw 5 (some .int) 4 100 [vr 52, vi foot, vi push, vi lean] I ((some (vi (((fX6_draw I foot push lean).1))), (fX6_draw I foot push lean).2)) := by
  refine Cx.mk (lv := [(0, vr 52), (1, vi foot), (2, vi push), (3, vi lean)]) (by decide) (Nat.le_of_ble_eq_true rfl) rfl (fun E ok hr => ?_)
  rw [fX6_draw]
  refine g_aload_n (n := 1) ok 0 dX6_draw_0 rfl rfl rfl ?_
  refine g_iconst (n := 2) (v := 0) ok dX6_draw_1 rfl rfl ?_
  refine g_put (n := 5) (J := up I 52 10 0) (c := 6) (k := 10) ok dX6_draw_2 clsX6 tyX6 tyX6_ok nmX6 (by decide) q688 rfl rfl (fun _ => rfl) (fun _ => rfl) (Nat.le_of_ble_eq_true rfl) (fs_6_10 _ _ _) up_ne rfl ?_
  have C5_19 : ∀ (K5 : HI) (hd2 : vp_in (K5 52 5) 7), G E 5 ((some (vi (((fX6_draw_c5 foot push lean K5).1))), (fX6_draw_c5 foot push lean K5).2)) K5 5 [(0, vr 52), (1, vi foot), (2, vi push), (3, vi lean)] [] := by
    intro K5 hd2
    rw [fX6_draw_c5]
    have hd3 := vb hd2
    refine g_iload_n (n := 6) ok 1 dX6_draw_5 rfl rfl rfl ?_
    refine g_callS (n := 9) (rest := []) (av := [vi foot]) ok (kX6_isFoot K5 foot) knX6_isFoot q834 q835 dX6_draw_6 rfl rfl (Nat.le_of_ble_eq_true rfl) (by decide) (by decide) rfl ?_
    refine g_if_eq (n := 12) (tgt := 20) ok dX6_draw_9 (by decide) rfl (fun c5 => ?_) (fun c5 => ?_)
    · rw [if_pos c5]
      refine g_iconst (n := 21) (v := -1) ok dX6_draw_20 rfl rfl ?_
      refine g_istore (n := 23) (lv' := [(4, vi (-1)), (0, vr 52), (1, vi foot), (2, vi push), (3, vi lean)]) ok dX6_draw_21 (by decide) rfl rfl ?_
      refine g_iload (n := 25) ok 0 dX6_draw_23 rfl rfl ?_
      refine g_if_ne (n := 28) (tgt := 42) ok dX6_draw_25 (by decide) rfl (fun c6 => ?_) (fun c6 => ?_)
      · refine g_iload (n := 44) ok 0 dX6_draw_42 rfl rfl ?_
        refine g_istore (n := 46) (lv' := [(4, vi (-1)), (0, vr 52), (1, vi foot), (2, vi push), (3, vi lean)]) ok dX6_draw_44 (by decide) rfl rfl ?_
        refine g_iload (n := 48) ok 0 dX6_draw_46 rfl rfl ?_
        refine g_if_ge (n := 51) (tgt := 60) ok dX6_draw_48 (by decide) rfl (fun c7 => ?_) (fun c7 => ?_)
        · exact absurd c7 (by decide)
        · refine g_aload_n (n := 52) ok 1 dX6_draw_51 rfl rfl rfl ?_
          refine g_iload (n := 54) ok 0 dX6_draw_52 rfl rfl ?_
          refine g_callV (n := 57) (rest := []) (av := [vi (-1)]) (j := 52) ok (kX6_refuse K5 (-1) (vp_b (by decide +kernel))) knX6_refuse q770 q772 qs25 clsX6 rfl dX6_draw_54 rfl rfl (Nat.le_of_ble_eq_true rfl) (by decide) (by decide) rfl ?_
          refine g_goto (tgt := 71) ok dX6_draw_57 (by decide) ?_
          exact g_iret ok hr dX6_draw_71
      · exact absurd c6 (by decide)
    · rw [if_neg c5]
      have ha8 : vp_in foot 2 := isFoot6_in c5
      have ha8b := vb ha8
      refine g_iload_n (n := 13) ok 2 dX6_draw_12 rfl rfl rfl ?_
      refine g_iload_n (n := 14) ok 3 dX6_draw_13 rfl rfl rfl ?_
      refine g_callS (n := 17) (rest := []) (av := [vi push, vi lean]) ok (kX6_wrongTwo K5 push lean) knX6_wrongTwo q845 q846 dX6_draw_14 rfl rfl (Nat.le_of_ble_eq_true rfl) (by decide) (by decide) rfl ?_
      refine g_goto (tgt := 21) ok dX6_draw_17 (by decide) ?_
      refine g_istore (n := 23) (lv' := [(4, vi (fX6_wrongTwo push lean)), (0, vr 52), (1, vi foot), (2, vi push), (3, vi lean)]) ok dX6_draw_21 (by decide) rfl rfl ?_
      refine g_iload (n := 25) ok 0 dX6_draw_23 rfl rfl ?_
      refine g_if_ne (n := 28) (tgt := 42) ok dX6_draw_25 (by decide) rfl (fun c9 => ?_) (fun c9 => ?_)
      · rw [if_neg c9]
        refine g_iload (n := 44) ok 0 dX6_draw_42 rfl rfl ?_
        refine g_istore (n := 46) (lv' := [(4, vi (fX6_wrongTwo push lean)), (0, vr 52), (1, vi foot), (2, vi push), (3, vi lean)]) ok dX6_draw_44 (by decide) rfl rfl ?_
        refine g_iload (n := 48) ok 0 dX6_draw_46 rfl rfl ?_
        refine g_if_ge (n := 51) (tgt := 60) ok dX6_draw_48 (by decide) rfl (fun c10 => ?_) (fun c10 => ?_)
        · exact absurd c10 (wrongTwo_neg c9)
        · refine g_aload_n (n := 52) ok 1 dX6_draw_51 rfl rfl rfl ?_
          refine g_iload (n := 54) ok 0 dX6_draw_52 rfl rfl ?_
          refine g_callV (n := 57) (rest := []) (av := [vi (fX6_wrongTwo push lean)]) (j := 52) ok (kX6_refuse K5 (fX6_wrongTwo push lean) wrongTwo_in) knX6_refuse q770 q772 qs25 clsX6 rfl dX6_draw_54 rfl rfl (Nat.le_of_ble_eq_true rfl) (by decide) (by decide) rfl ?_
          refine g_goto (tgt := 71) ok dX6_draw_57 (by decide) ?_
          exact g_iret ok hr dX6_draw_71
      · rw [if_pos c9]
        have hx11 := wrongTwo_ne (wz0 c9)
        refine g_aload_n (n := 29) ok 1 dX6_draw_28 rfl rfl rfl ?_
        refine g_get (n := 32) (v := vi (K5 52 5)) (c := 6) (k := 5) ok dX6_draw_29 clsX6 (by decide) q683 rfl rfl rfl ?_
        refine g_bipush (n := 34) (v := 6) ok dX6_draw_32 rfl rfl ?_
        refine g_icmp_ne (n := 37) (tgt := 42) ok dX6_draw_34 (by decide) rfl (fun c12 => ?_) (fun c12 => ?_)
        · rw [if_neg c12]
          have hz13 := ixn (n := 6) hd2 c12 (by omega) (by omega)
          refine g_iload (n := 44) ok 0 dX6_draw_42 rfl rfl ?_
          refine g_istore (n := 46) (lv' := [(4, vi (fX6_wrongTwo push lean)), (0, vr 52), (1, vi foot), (2, vi push), (3, vi lean)]) ok dX6_draw_44 (by decide) rfl rfl ?_
          refine g_iload (n := 48) ok 0 dX6_draw_46 rfl rfl ?_
          refine g_if_ge (n := 51) (tgt := 60) ok dX6_draw_48 (by decide) rfl (fun c14 => ?_) (fun c14 => ?_)
          · have hx15 := wrongTwo_ne c14
            refine g_aload_n (n := 61) ok 1 dX6_draw_60 rfl rfl rfl ?_
            refine g_aload_n (n := 62) ok 1 dX6_draw_61 rfl rfl rfl ?_
            refine g_get (n := 65) (v := vi (K5 52 3)) (c := 6) (k := 3) ok dX6_draw_62 clsX6 (by decide) q681 rfl rfl rfl ?_
            refine g_iload_n (n := 66) ok 2 dX6_draw_65 rfl rfl rfl ?_
            refine g_iload_n (n := 67) ok 3 dX6_draw_66 rfl rfl rfl ?_
            refine g_iload_n (n := 68) ok 4 dX6_draw_67 rfl rfl rfl ?_
            refine g_callV (n := 71) (rest := []) (av := [vi (K5 52 3), vi (nI (ix foot)), vi push, vi lean]) (j := 52) ok (kX6_drawBy K5 (K5 52 3) (ix foot) push lean (by first | with_reducible assumption | exact vp_mono (by with_reducible assumption) (by omega)) (by first | with_reducible assumption | omega) (by first | with_reducible assumption | omega)) knX6_drawBy q848 q850 qs38 clsX6 rfl dX6_draw_68 (lcons rfl (lcons rfl (lcons (congrArg vi (vx ha8)) (lcons rfl (lcons rfl rfl))))) rfl (Nat.le_of_ble_eq_true rfl) (by decide) (by decide) rfl ?_
            have hp16 : (fX6_drawBy K5 (K5 52 3) (ix foot) push lean).1 = ix (K5 52 5) := rfl
            exact g_iret ok hr dX6_draw_71
          · exact absurd (wz0 c9) c14
        · rw [if_pos c12]
          have hz17 := ixe (n := 6) hd2 c12 (by omega) (by omega)
          refine g_bipush (n := 39) (v := -6) ok dX6_draw_37 rfl rfl ?_
          refine g_goto (tgt := 44) ok dX6_draw_39 (by decide) ?_
          refine g_istore (n := 46) (lv' := [(4, vi (-6)), (0, vr 52), (1, vi foot), (2, vi push), (3, vi lean)]) ok dX6_draw_44 (by decide) rfl rfl ?_
          refine g_iload (n := 48) ok 0 dX6_draw_46 rfl rfl ?_
          refine g_if_ge (n := 51) (tgt := 60) ok dX6_draw_48 (by decide) rfl (fun c18 => ?_) (fun c18 => ?_)
          · exact absurd c18 (by decide)
          · refine g_aload_n (n := 52) ok 1 dX6_draw_51 rfl rfl rfl ?_
            refine g_iload (n := 54) ok 0 dX6_draw_52 rfl rfl ?_
            refine g_callV (n := 57) (rest := []) (av := [vi (-6)]) (j := 52) ok (kX6_refuse K5 (-6) (vp_b (by decide +kernel))) knX6_refuse q770 q772 qs25 clsX6 rfl dX6_draw_54 rfl rfl (Nat.le_of_ble_eq_true rfl) (by decide) (by decide) rfl ?_
            refine g_goto (tgt := 71) ok dX6_draw_57 (by decide) ?_
            exact g_iret ok hr dX6_draw_71
  exact C5_19 _ (by rw [up_k (by omega)]; exact hd)

noncomputable def fX6_sweep_c5 (K5 : HI) : Int32 × HI :=
  (K5 52 5, (up K5 52 5 0))
noncomputable def fX6_sweep (I : HI) : Int32 × HI :=
  fX6_sweep_c5 (up I 52 10 0)
theorem knX6_sweep : Kn yX6_sweep cX6_sweep 2 (some .int) 0 := ⟨q914, q8, ⟨by decide, by decide⟩, by decide +kernel⟩
set_option maxHeartbeats 400000 in
set_option maxRecDepth 100000 in
theorem kX6_sweep (I : HI) : Cx yX6_sweep cX6_sweep 2 (some .int) 0 0 [vr 52] I ((some (vi (((fX6_sweep I).1))), (fX6_sweep I).2)) := by
  refine Cx.mk (lv := [(0, vr 52)]) (by decide) (Nat.le_of_ble_eq_true rfl) rfl (fun E ok hr => ?_)
  rw [fX6_sweep]
  refine g_aload_n (n := 1) ok 0 dX6_sweep_0 rfl rfl rfl ?_
  refine g_iconst (n := 2) (v := 0) ok dX6_sweep_1 rfl rfl ?_
  refine g_put (n := 5) (J := up I 52 10 0) (c := 6) (k := 10) ok dX6_sweep_2 clsX6 tyX6 tyX6_ok nmX6 (by decide) q688 rfl rfl (fun _ => rfl) (fun _ => rfl) (Nat.le_of_ble_eq_true rfl) (fs_6_10 _ _ _) up_ne rfl ?_
  have C5_2 : ∀ (K5 : HI), G E 2 ((some (vi (((fX6_sweep_c5 K5).1))), (fX6_sweep_c5 K5).2)) K5 5 [(0, vr 52)] [] := by
    intro K5
    rw [fX6_sweep_c5]
    refine g_aload_n (n := 6) ok 0 dX6_sweep_5 rfl rfl rfl ?_
    refine g_get (n := 9) (v := vi (K5 52 5)) (c := 6) (k := 5) ok dX6_sweep_6 clsX6 (by decide) q683 rfl rfl rfl ?_
    refine g_istore_n (n := 10) (lv' := [(1, vi (K5 52 5)), (0, vr 52)]) ok dX6_sweep_9 rfl (by decide) rfl rfl ?_
    refine g_aload_n (n := 11) ok 1 dX6_sweep_10 rfl rfl rfl ?_
    refine g_iconst (n := 12) (v := 0) ok dX6_sweep_11 rfl rfl ?_
    refine g_put (n := 15) (J := up K5 52 5 0) (c := 6) (k := 5) ok dX6_sweep_12 clsX6 tyX6 tyX6_ok nmX6 (by decide) q683 rfl rfl (fun _ => rfl) (fun _ => rfl) (Nat.le_of_ble_eq_true rfl) (fs_6_5 _ _ _) up_ne rfl ?_
    refine g_iload_n (n := 16) ok 0 dX6_sweep_15 rfl rfl rfl ?_
    exact g_iret ok hr dX6_sweep_16
  exact C5_2 _

noncomputable def fX6_trace_c5 (t : Int32) (hour : Int32) (K5 : HI) : Int32 × HI :=
  if fX6_isTrace K5 t = 0 then ((fX6_refuse K5 (-1)).1, ((fX6_refuse K5 (-1)).2)) else (if fX6_isHour hour = 0 then ((fX6_refuse K5 (-1)).1, ((fX6_refuse K5 (-1)).2)) else (K5 59 ((12 * (ix t)) + (ix hour)), K5))
noncomputable def fX6_trace (I : HI) (t : Int32) (hour : Int32) : Int32 × HI :=
  fX6_trace_c5 t hour (up I 52 10 0)
theorem knX6_trace : Kn yX6_trace cX6_trace 3 (some .int) 2 := ⟨q918, q8, ⟨by decide, by decide⟩, by decide +kernel⟩
set_option maxHeartbeats 400000 in
set_option maxRecDepth 100000 in
theorem kX6_trace (I : HI) (t : Int32) (hour : Int32) (hd : vp_in (I 52 5) 7) : Cx yX6_trace cX6_trace 3 (some .int) 2 46 [vr 52, vi t, vi hour] I ((some (vi (((fX6_trace I t hour).1))), (fX6_trace I t hour).2)) := by
  refine Cx.mk (lv := [(0, vr 52), (1, vi t), (2, vi hour)]) (by decide) (Nat.le_of_ble_eq_true rfl) rfl (fun E ok hr => ?_)
  rw [fX6_trace]
  refine g_aload_n (n := 1) ok 0 dX6_trace_0 rfl rfl rfl ?_
  refine g_iconst (n := 2) (v := 0) ok dX6_trace_1 rfl rfl ?_
  refine g_put (n := 5) (J := up I 52 10 0) (c := 6) (k := 10) ok dX6_trace_2 clsX6 tyX6 tyX6_ok nmX6 (by decide) q688 rfl rfl (fun _ => rfl) (fun _ => rfl) (Nat.le_of_ble_eq_true rfl) (fs_6_10 _ _ _) up_ne rfl ?_
  have C5_8 : ∀ (K5 : HI) (hd2 : vp_in (K5 52 5) 7), G E 3 ((some (vi (((fX6_trace_c5 t hour K5).1))), (fX6_trace_c5 t hour K5).2)) K5 5 [(0, vr 52), (1, vi t), (2, vi hour)] [] := by
    intro K5 hd2
    rw [fX6_trace_c5]
    have hd3 := vb hd2
    refine g_aload_n (n := 6) ok 0 dX6_trace_5 rfl rfl rfl ?_
    refine g_iload_n (n := 7) ok 1 dX6_trace_6 rfl rfl rfl ?_
    refine g_callV (n := 10) (rest := []) (av := [vi t]) (j := 52) ok (kX6_isTrace K5 t) knX6_isTrace q919 q921 qs45 clsX6 rfl dX6_trace_7 rfl rfl (Nat.le_of_ble_eq_true rfl) (by decide) (by decide) rfl ?_
    refine g_if_eq (n := 13) (tgt := 34) ok dX6_trace_10 (by decide) rfl (fun c4 => ?_) (fun c4 => ?_)
    · rw [if_pos c4]
      refine g_aload_n (n := 35) ok 0 dX6_trace_34 rfl rfl rfl ?_
      refine g_iconst (n := 36) (v := -1) ok dX6_trace_35 rfl rfl ?_
      refine g_callV (n := 39) (rest := []) (av := [vi (-1)]) (j := 52) ok (kX6_refuse K5 (-1) (vp_b (by decide +kernel))) knX6_refuse q770 q772 qs25 clsX6 rfl dX6_trace_36 rfl rfl (Nat.le_of_ble_eq_true rfl) (by decide) (by decide) rfl ?_
      exact g_iret ok hr dX6_trace_39
    · rw [if_neg c4]
      have ha5 : vp_in t 6 := isTrace6_in (by with_reducible assumption) c4
      have ha5b := vb ha5
      refine g_iload_n (n := 14) ok 2 dX6_trace_13 rfl rfl rfl ?_
      refine g_callS (n := 17) (rest := []) (av := [vi hour]) ok (kX6_isHour K5 hour) knX6_isHour q837 q838 dX6_trace_14 rfl rfl (Nat.le_of_ble_eq_true rfl) (by decide) (by decide) rfl ?_
      refine g_if_eq (n := 20) (tgt := 34) ok dX6_trace_17 (by decide) rfl (fun c6 => ?_) (fun c6 => ?_)
      · rw [if_pos c6]
        refine g_aload_n (n := 35) ok 0 dX6_trace_34 rfl rfl rfl ?_
        refine g_iconst (n := 36) (v := -1) ok dX6_trace_35 rfl rfl ?_
        refine g_callV (n := 39) (rest := []) (av := [vi (-1)]) (j := 52) ok (kX6_refuse K5 (-1) (vp_b (by decide +kernel))) knX6_refuse q770 q772 qs25 clsX6 rfl dX6_trace_36 rfl rfl (Nat.le_of_ble_eq_true rfl) (by decide) (by decide) rfl ?_
        exact g_iret ok hr dX6_trace_39
      · rw [if_neg c6]
        have ha7 : vp_in hour 12 := isHour6_in c6
        have ha7b := vb ha7
        refine g_aload_n (n := 21) ok 0 dX6_trace_20 rfl rfl rfl ?_
        refine g_get (n := 24) (v := vr 59) (c := 6) (k := 9) ok dX6_trace_21 clsX6 (by decide) q687 rfl rfl rfl ?_
        refine g_bipush (n := 26) (v := 12) ok dX6_trace_24 rfl rfl ?_
        refine g_iload_n (n := 27) ok 1 dX6_trace_26 rfl rfl rfl ?_
        refine g_imul (n := 28) ok dX6_trace_27 rfl ?_
        refine g_top (nv_imul (a := 12) (b := ix t) rfl (vx ha5)) ?_
        refine g_iload_n (n := 29) ok 2 dX6_trace_28 rfl rfl rfl ?_
        refine g_iadd (n := 30) ok dX6_trace_29 rfl ?_
        refine g_top (nv_iadd (a := 12 * (ix t)) (b := ix hour) rfl (vx ha7)) ?_
        refine g_iald (n := 31) (i := (12 * (ix t)) + (ix hour)) (L := 324) ok dX6_trace_30 rfl rfl rfl (by omega) rfl ?_
        refine g_goto (tgt := 39) ok dX6_trace_31 (by decide) ?_
        exact g_iret ok hr dX6_trace_39
  exact C5_8 _ (by rw [up_k (by omega)]; exact hd)

noncomputable def fX6_of_c5 (t : Int32) (what : Int32) (K5 : HI) : Int32 × HI :=
  if fX6_isTrace K5 t = 0 then ((fX6_refuse K5 (-1)).1, ((fX6_refuse K5 (-1)).2)) else (if fX6_in what.toInt64 0 8 = 0 then ((fX6_refuse K5 (-2)).1, ((fX6_refuse K5 (-2)).2)) else (if what = 0 then (K5 56 (ix t), K5) else (if what = 1 then (K5 57 (ix t), K5) else (if what = 2 then (K5 58 (ix t), K5) else (if what = 3 then (fX6_roundOf K5 (ix t), K5) else (if what = 4 then (fX6_gapOf K5 (ix t), K5) else (if what = 5 then (fX6_offOf K5 (ix t), K5) else (if what = 6 then (nI (fX6_wobbleHour K5 (ix t)), K5) else (if what = 7 then (fX6_wobbleAt K5 (ix t) (fX6_wobbleHour K5 (ix t)), K5) else (nI (ix (fX6_flatsOf K5 (ix t))), K5))))))))))
noncomputable def fX6_of (I : HI) (t : Int32) (what : Int32) : Int32 × HI :=
  fX6_of_c5 t what (up I 52 10 0)
theorem knX6_of : Kn yX6_of cX6_of 3 (some .int) 2 := ⟨q926, q8, ⟨by decide, by decide⟩, by decide +kernel⟩
set_option maxHeartbeats 400000 in
set_option maxRecDepth 100000 in
theorem kX6_of (I : HI) (t : Int32) (what : Int32) (hd : vp_in (I 52 5) 7) (hF : ∀ n, n < 27 → vp_in (I 56 n) 2) : Cx yX6_of cX6_of 3 (some .int) 3 65 [vr 52, vi t, vi what] I ((some (vi (((fX6_of I t what).1))), (fX6_of I t what).2)) := by
  refine Cx.mk (lv := [(0, vr 52), (1, vi t), (2, vi what)]) (by decide) (Nat.le_of_ble_eq_true rfl) rfl (fun E ok hr => ?_)
  rw [fX6_of]
  refine g_aload_n (n := 1) ok 0 dX6_of_0 rfl rfl rfl ?_
  refine g_iconst (n := 2) (v := 0) ok dX6_of_1 rfl rfl ?_
  refine g_put (n := 5) (J := up I 52 10 0) (c := 6) (k := 10) ok dX6_of_2 clsX6 tyX6 tyX6_ok nmX6 (by decide) q688 rfl rfl (fun _ => rfl) (fun _ => rfl) (Nat.le_of_ble_eq_true rfl) (fs_6_10 _ _ _) up_ne rfl ?_
  have C5_21 : ∀ (K5 : HI) (hd2 : vp_in (K5 52 5) 7) (hF2 : ∀ n, n < 27 → vp_in (K5 56 n) 2), G E 3 ((some (vi (((fX6_of_c5 t what K5).1))), (fX6_of_c5 t what K5).2)) K5 5 [(0, vr 52), (1, vi t), (2, vi what)] [] := by
    intro K5 hd2 hF2
    rw [fX6_of_c5]
    have hd3 := vb hd2
    refine g_aload_n (n := 6) ok 0 dX6_of_5 rfl rfl rfl ?_
    refine g_iload_n (n := 7) ok 1 dX6_of_6 rfl rfl rfl ?_
    refine g_callV (n := 10) (rest := []) (av := [vi t]) (j := 52) ok (kX6_isTrace K5 t) knX6_isTrace q919 q921 qs45 clsX6 rfl dX6_of_7 rfl rfl (Nat.le_of_ble_eq_true rfl) (by decide) (by decide) rfl ?_
    refine g_if_eq (n := 13) (tgt := 25) ok dX6_of_10 (by decide) rfl (fun c4 => ?_) (fun c4 => ?_)
    · rw [if_pos c4]
      refine g_aload_n (n := 26) ok 0 dX6_of_25 rfl rfl rfl ?_
      refine g_aload_n (n := 27) ok 0 dX6_of_26 rfl rfl rfl ?_
      refine g_iload_n (n := 28) ok 1 dX6_of_27 rfl rfl rfl ?_
      refine g_callV (n := 31) (rest := [vr 52]) (av := [vi t]) (j := 52) ok (kX6_isTrace K5 t) knX6_isTrace q919 q921 qs45 clsX6 rfl dX6_of_28 rfl rfl (Nat.le_of_ble_eq_true rfl) (by decide) (by decide) rfl ?_
      refine g_if_eq (n := 34) (tgt := 39) ok dX6_of_31 (by decide) rfl (fun c5 => ?_) (fun c5 => ?_)
      · refine g_iconst (n := 40) (v := -1) ok dX6_of_39 rfl rfl ?_
        refine g_callV (n := 43) (rest := []) (av := [vi (-1)]) (j := 52) ok (kX6_refuse K5 (-1) (vp_b (by decide +kernel))) knX6_refuse q770 q772 qs25 clsX6 rfl dX6_of_40 rfl rfl (Nat.le_of_ble_eq_true rfl) (by decide) (by decide) rfl ?_
        exact g_iret ok hr dX6_of_43
      · exact absurd c4 c5
    · rw [if_neg c4]
      have ha6 : vp_in t 6 := isTrace6_in (by with_reducible assumption) c4
      have ha6b := vb ha6
      refine g_iload_n (n := 14) ok 2 dX6_of_13 rfl rfl rfl ?_
      refine g_i2l (n := 15) ok dX6_of_14 rfl ?_
      refine g_lconst (n := 16) (v := 0) ok dX6_of_15 rfl rfl ?_
      refine g_ldc2_w (n := 19) ok dX6_of_16 q927 rfl ?_
      refine g_callS (n := 22) (rest := []) (av := [vl what.toInt64, vl 0, vl 8]) ok (kX6_in K5 what.toInt64 0 8) knX6_in q792 q793 dX6_of_19 rfl rfl (Nat.le_of_ble_eq_true rfl) (by decide) (by decide) rfl ?_
      refine g_if_ne (n := 25) (tgt := 44) ok dX6_of_22 (by decide) rfl (fun c7 => ?_) (fun c7 => ?_)
      · rw [if_neg c7]
        have ha8 : vp_in what 9 := in6_in (b := 8) c7 (by omega)
        have ha8b := vb ha8
        refine g_iload_n (n := 45) ok 2 dX6_of_44 rfl rfl rfl ?_
        by_cases c9 : what = 0
        · rw [if_pos c9]
          refine g_tabIn (off := 47) (tgt := 92) ok dX6_of_45 (by rw [c9]; decide) (by rw [c9]; decide) (by rw [c9]; rfl) (by decide) ?_
          refine g_aload_n (n := 93) ok 0 dX6_of_92 rfl rfl rfl ?_
          refine g_get (n := 96) (v := vr 56) (c := 6) (k := 6) ok dX6_of_93 clsX6 (by decide) q684 rfl rfl rfl ?_
          refine g_iload_n (n := 97) ok 1 dX6_of_96 rfl rfl rfl ?_
          refine g_iald (n := 98) (i := ix t) (L := 27) ok dX6_of_97 rfl rfl (vx ha6) (by omega) rfl ?_
          exact g_iret ok hr dX6_of_98
        · rw [if_neg c9]
          by_cases c10 : what = 1
          · rw [if_pos c10]
            refine g_tabIn (off := 54) (tgt := 99) ok dX6_of_45 (by rw [c10]; decide) (by rw [c10]; decide) (by rw [c10]; rfl) (by decide) ?_
            refine g_aload_n (n := 100) ok 0 dX6_of_99 rfl rfl rfl ?_
            refine g_get (n := 103) (v := vr 57) (c := 6) (k := 7) ok dX6_of_100 clsX6 (by decide) q685 rfl rfl rfl ?_
            refine g_iload_n (n := 104) ok 1 dX6_of_103 rfl rfl rfl ?_
            refine g_iald (n := 105) (i := ix t) (L := 27) ok dX6_of_104 rfl rfl (vx ha6) (by omega) rfl ?_
            exact g_iret ok hr dX6_of_105
          · rw [if_neg c10]
            by_cases c11 : what = 2
            · rw [if_pos c11]
              refine g_tabIn (off := 61) (tgt := 106) ok dX6_of_45 (by rw [c11]; decide) (by rw [c11]; decide) (by rw [c11]; rfl) (by decide) ?_
              refine g_aload_n (n := 107) ok 0 dX6_of_106 rfl rfl rfl ?_
              refine g_get (n := 110) (v := vr 58) (c := 6) (k := 8) ok dX6_of_107 clsX6 (by decide) q686 rfl rfl rfl ?_
              refine g_iload_n (n := 111) ok 1 dX6_of_110 rfl rfl rfl ?_
              refine g_iald (n := 112) (i := ix t) (L := 27) ok dX6_of_111 rfl rfl (vx ha6) (by omega) rfl ?_
              exact g_iret ok hr dX6_of_112
            · rw [if_neg c11]
              by_cases c12 : what = 3
              · rw [if_pos c12]
                refine g_tabIn (off := 68) (tgt := 113) ok dX6_of_45 (by rw [c12]; decide) (by rw [c12]; decide) (by rw [c12]; rfl) (by decide) ?_
                refine g_aload_n (n := 114) ok 0 dX6_of_113 rfl rfl rfl ?_
                refine g_iload_n (n := 115) ok 1 dX6_of_114 rfl rfl rfl ?_
                refine g_callV (n := 118) (rest := []) (av := [vi (nI (ix t))]) (j := 52) ok (kX6_roundOf K5 (ix t) (by first | with_reducible assumption | omega)) knX6_roundOf q928 q930 qs46 clsX6 rfl dX6_of_115 (lcons (congrArg vi (vx ha6)) (lcons rfl rfl)) rfl (Nat.le_of_ble_eq_true rfl) (by decide) (by decide) rfl ?_
                exact g_iret ok hr dX6_of_118
              · rw [if_neg c12]
                by_cases c13 : what = 4
                · rw [if_pos c13]
                  refine g_tabIn (off := 74) (tgt := 119) ok dX6_of_45 (by rw [c13]; decide) (by rw [c13]; decide) (by rw [c13]; rfl) (by decide) ?_
                  refine g_aload_n (n := 120) ok 0 dX6_of_119 rfl rfl rfl ?_
                  refine g_iload_n (n := 121) ok 1 dX6_of_120 rfl rfl rfl ?_
                  refine g_callV (n := 124) (rest := []) (av := [vi (nI (ix t))]) (j := 52) ok (kX6_gapOf K5 (ix t) (by first | with_reducible assumption | omega)) knX6_gapOf q932 q934 qs47 clsX6 rfl dX6_of_121 (lcons (congrArg vi (vx ha6)) (lcons rfl rfl)) rfl (Nat.le_of_ble_eq_true rfl) (by decide) (by decide) rfl ?_
                  exact g_iret ok hr dX6_of_124
                · rw [if_neg c13]
                  by_cases c14 : what = 5
                  · rw [if_pos c14]
                    refine g_tabIn (off := 80) (tgt := 125) ok dX6_of_45 (by rw [c14]; decide) (by rw [c14]; decide) (by rw [c14]; rfl) (by decide) ?_
                    refine g_aload_n (n := 126) ok 0 dX6_of_125 rfl rfl rfl ?_
                    refine g_iload_n (n := 127) ok 1 dX6_of_126 rfl rfl rfl ?_
                    refine g_callV (n := 130) (rest := []) (av := [vi (nI (ix t))]) (j := 52) ok (kX6_offOf K5 (ix t) (by first | with_reducible assumption | omega)) knX6_offOf q939 q941 qs48 clsX6 rfl dX6_of_127 (lcons (congrArg vi (vx ha6)) (lcons rfl rfl)) rfl (Nat.le_of_ble_eq_true rfl) (by decide) (by decide) rfl ?_
                    exact g_iret ok hr dX6_of_130
                  · rw [if_neg c14]
                    by_cases c15 : what = 6
                    · rw [if_pos c15]
                      refine g_tabIn (off := 86) (tgt := 131) ok dX6_of_45 (by rw [c15]; decide) (by rw [c15]; decide) (by rw [c15]; rfl) (by decide) ?_
                      refine g_aload_n (n := 132) ok 0 dX6_of_131 rfl rfl rfl ?_
                      refine g_iload_n (n := 133) ok 1 dX6_of_132 rfl rfl rfl ?_
                      refine g_callV (n := 136) (rest := []) (av := [vi (nI (ix t))]) (j := 52) ok (kX6_wobbleHour K5 (ix t) (by first | with_reducible assumption | omega)) knX6_wobbleHour q943 q945 qs49 clsX6 rfl dX6_of_133 (lcons (congrArg vi (vx ha6)) (lcons rfl rfl)) rfl (Nat.le_of_ble_eq_true rfl) (by decide) (by decide) rfl ?_
                      have hp16 := fX6_wobbleHour_lt K5 (ix t)
                      exact g_iret ok hr dX6_of_136
                    · rw [if_neg c15]
                      by_cases c17 : what = 7
                      · rw [if_pos c17]
                        refine g_tabIn (off := 92) (tgt := 137) ok dX6_of_45 (by rw [c17]; decide) (by rw [c17]; decide) (by rw [c17]; rfl) (by decide) ?_
                        refine g_aload_n (n := 138) ok 0 dX6_of_137 rfl rfl rfl ?_
                        refine g_iload_n (n := 139) ok 1 dX6_of_138 rfl rfl rfl ?_
                        refine g_aload_n (n := 140) ok 0 dX6_of_139 rfl rfl rfl ?_
                        refine g_iload_n (n := 141) ok 1 dX6_of_140 rfl rfl rfl ?_
                        refine g_callV (n := 144) (rest := [vi t, vr 52]) (av := [vi (nI (ix t))]) (j := 52) ok (kX6_wobbleHour K5 (ix t) (by first | with_reducible assumption | omega)) knX6_wobbleHour q943 q945 qs49 clsX6 rfl dX6_of_141 (lcons (congrArg vi (vx ha6)) (lcons rfl rfl)) rfl (Nat.le_of_ble_eq_true rfl) (by decide) (by decide) rfl ?_
                        have hp18 := fX6_wobbleHour_lt K5 (ix t)
                        refine g_callV (n := 147) (rest := []) (av := [vi (nI (ix t)), vi (nI (fX6_wobbleHour K5 (ix t)))]) (j := 52) ok (kX6_wobbleAt K5 (ix t) (fX6_wobbleHour K5 (ix t)) (by first | with_reducible assumption | omega) (by first | with_reducible assumption | omega)) knX6_wobbleAt q947 q949 qs50 clsX6 rfl dX6_of_144 (lcons rfl (lcons (congrArg vi (vx ha6)) (lcons rfl rfl))) rfl (Nat.le_of_ble_eq_true rfl) (by decide) (by decide) rfl ?_
                        exact g_iret ok hr dX6_of_147
                      · rw [if_neg c17]
                        refine g_tabOut (tgt := 148) ok dX6_of_45 (by have h0 : what.toInt ≠ 0 := ne_toInt c9; have h1 : what.toInt ≠ 1 := ne_toInt c10; have h2 : what.toInt ≠ 2 := ne_toInt c11; have h3 : what.toInt ≠ 3 := ne_toInt c12; have h4 : what.toInt ≠ 4 := ne_toInt c13; have h5 : what.toInt ≠ 5 := ne_toInt c14; have h6 : what.toInt ≠ 6 := ne_toInt c15; have h7 : what.toInt ≠ 7 := ne_toInt c17; omega) (by decide) ?_
                        refine g_aload_n (n := 149) ok 0 dX6_of_148 rfl rfl rfl ?_
                        refine g_iload_n (n := 150) ok 1 dX6_of_149 rfl rfl rfl ?_
                        refine g_callV (n := 153) (rest := []) (av := [vi (nI (ix t))]) (j := 52) ok (kX6_flatsOf K5 (ix t) (by first | with_reducible assumption | omega) hF2) knX6_flatsOf q951 q953 qs51 clsX6 rfl dX6_of_150 (lcons (congrArg vi (vx ha6)) (lcons rfl rfl)) rfl (Nat.le_of_ble_eq_true rfl) (by decide) (by decide) rfl ?_
                        have hq19 : vp_in (fX6_flatsOf K5 (ix t)) 4096 := flats6_in
                        have hq19b := vb hq19
                        refine g_top (vx hq19) ?_
                        exact g_iret ok hr dX6_of_153
      · rw [if_pos c7]
        refine g_aload_n (n := 26) ok 0 dX6_of_25 rfl rfl rfl ?_
        refine g_aload_n (n := 27) ok 0 dX6_of_26 rfl rfl rfl ?_
        refine g_iload_n (n := 28) ok 1 dX6_of_27 rfl rfl rfl ?_
        refine g_callV (n := 31) (rest := [vr 52]) (av := [vi t]) (j := 52) ok (kX6_isTrace K5 t) knX6_isTrace q919 q921 qs45 clsX6 rfl dX6_of_28 rfl rfl (Nat.le_of_ble_eq_true rfl) (by decide) (by decide) rfl ?_
        refine g_if_eq (n := 34) (tgt := 39) ok dX6_of_31 (by decide) rfl (fun c20 => ?_) (fun c20 => ?_)
        · exact absurd c20 c4
        · refine g_bipush (n := 36) (v := -2) ok dX6_of_34 rfl rfl ?_
          refine g_goto (tgt := 40) ok dX6_of_36 (by decide) ?_
          refine g_callV (n := 43) (rest := []) (av := [vi (-2)]) (j := 52) ok (kX6_refuse K5 (-2) (vp_b (by decide +kernel))) knX6_refuse q770 q772 qs25 clsX6 rfl dX6_of_40 rfl rfl (Nat.le_of_ble_eq_true rfl) (by decide) (by decide) rfl ?_
          exact g_iret ok hr dX6_of_43
  exact C5_21 _ (by rw [up_k (by omega)]; exact hd) (fun n hn => by rw [up_ne2 (by omega)]; exact hF n hn)

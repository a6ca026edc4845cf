noncomputable def fX5_hours (I : HI) (h : Int32) (what : Int32) : Int32 × HI :=
  if fX5_rangeFault h 0 40 = 0 then (if fX5_within what 0 1 = 0 then ((fX5_refuse I (-2)).1, ((fX5_refuse I (-2)).2)) else (if what = 0 then (nI (fX5_bestForFigures (ix h) (I 4 2)), I) else (fX5_marksTogether (nI (fX5_bestForFigures (ix h) (I 4 2))) (h - (nI (fX5_bestForFigures (ix h) (I 4 2)))) (I 4 2), I))) else ((fX5_refuse I (fX5_rangeFault h 0 40)).1, ((fX5_refuse I (fX5_rangeFault h 0 40)).2))
theorem knX5_hours : Kn yX5_hours cX5_hours 5 (some .int) 2 := ⟨q596, q1, ⟨by decide, by decide⟩, by decide +kernel⟩
set_option maxHeartbeats 400000 in
set_option maxRecDepth 100000 in
theorem kX5_hours (I : HI) (h : Int32) (what : Int32) : Cx yX5_hours cX5_hours 5 (some .int) 2 47 [vr 0, vi h, vi what] I ((some (vi (((fX5_hours I h what).1))), (fX5_hours I h what).2)) := by
  refine Cx.mk (lv := [(0, vr 0), (1, vi h), (2, vi what)]) (by decide) (Nat.le_of_ble_eq_true rfl) rfl (fun E ok hr => ?_)
  rw [fX5_hours]
  refine g_iload_n (n := 1) ok 1 dX5_hours_0 rfl rfl rfl ?_
  refine g_iconst (n := 2) (v := 0) ok dX5_hours_1 rfl rfl ?_
  refine g_bipush (n := 4) (v := 40) ok dX5_hours_2 rfl rfl ?_
  refine g_callS (n := 7) (rest := []) (av := [vi h, vi 0, vi 40]) ok (kX5_rangeFault I h 0 40) knX5_rangeFault q186 q187 dX5_hours_4 rfl rfl (Nat.le_of_ble_eq_true rfl) (by decide) (by decide) rfl ?_
  refine g_istore_n (n := 8) (lv' := [(3, vi (fX5_rangeFault h 0 40)), (0, vr 0), (1, vi h), (2, vi what)]) ok dX5_hours_7 rfl (by decide) rfl rfl ?_
  refine g_iload_n (n := 9) ok 0 dX5_hours_8 rfl rfl rfl ?_
  refine g_if_ne (n := 12) (tgt := 24) ok dX5_hours_9 (by decide) rfl (fun c1 => ?_) (fun c1 => ?_)
  · rw [if_neg c1]
    refine g_iload_n (n := 25) ok 0 dX5_hours_24 rfl rfl rfl ?_
    refine g_if_eq (n := 28) (tgt := 34) ok dX5_hours_25 (by decide) rfl (fun c2 => ?_) (fun c2 => ?_)
    · exact absurd c2 c1
    · refine g_aload_n (n := 29) ok 1 dX5_hours_28 rfl rfl rfl ?_
      refine g_iload_n (n := 30) ok 0 dX5_hours_29 rfl rfl rfl ?_
      refine g_callV (n := 33) (rest := []) (av := [vi (fX5_rangeFault h 0 40)]) (j := 0) ok (kX5_refuse I (fX5_rangeFault h 0 40)) knX5_refuse q189 q191 qs0 clsX5 rfl dX5_hours_30 rfl rfl (Nat.le_of_ble_eq_true rfl) (by decide) (by decide) rfl ?_
      exact g_iret ok hr dX5_hours_33
  · rw [if_pos c1]
    have ha3 : vp_in h 41 := rangeFault_in (b := 40) c1 (by decide) (by omega)
    have ha3b := vb ha3
    refine g_iload_n (n := 13) ok 3 dX5_hours_12 rfl rfl rfl ?_
    refine g_iconst (n := 14) (v := 0) ok dX5_hours_13 rfl rfl ?_
    refine g_iconst (n := 15) (v := 1) ok dX5_hours_14 rfl rfl ?_
    refine g_callS (n := 18) (rest := []) (av := [vi what, vi 0, vi 1]) ok (kX5_within I what 0 1) knX5_within q193 q194 dX5_hours_15 rfl rfl (Nat.le_of_ble_eq_true rfl) (by decide) (by decide) rfl ?_
    refine g_if_ne (n := 21) (tgt := 24) ok dX5_hours_18 (by decide) rfl (fun c4 => ?_) (fun c4 => ?_)
    · rw [if_neg c4]
      have ha5 : vp_in what 2 := within_in (b := 1) c4 (by omega)
      have ha5b := vb ha5
      refine g_iload_n (n := 25) ok 0 dX5_hours_24 rfl rfl rfl ?_
      refine g_if_eq (n := 28) (tgt := 34) ok dX5_hours_25 (by decide) rfl (fun c6 => ?_) (fun c6 => ?_)
      · refine g_iload_n (n := 35) ok 2 dX5_hours_34 rfl rfl rfl ?_
        refine g_aload_n (n := 36) ok 1 dX5_hours_35 rfl rfl rfl ?_
        refine g_get (n := 39) (v := vr 1) (c := 5) (k := 0) ok dX5_hours_36 clsX5 (by decide) q154 rfl rfl rfl ?_
        refine g_get (n := 42) (v := vr 4) (c := 3) (k := 2) ok dX5_hours_39 clsX3 (by decide) q69 rfl rfl rfl ?_
        refine g_iconst (n := 43) (v := 2) ok dX5_hours_42 rfl rfl ?_
        refine g_iald (n := 44) (i := 2) (L := 5) ok dX5_hours_43 rfl rfl rfl (by omega) rfl ?_
        refine g_callS (n := 47) (rest := []) (av := [vi (nI (ix h)), vi (I 4 2)]) ok (kX5_bestForFigures I (ix h) (I 4 2) (by first | with_reducible assumption | omega)) knX5_bestForFigures q597 q598 dX5_hours_44 (lcons rfl (lcons (congrArg vi (vx ha3)) rfl)) rfl (Nat.le_of_ble_eq_true rfl) (by decide) (by decide) rfl ?_
        refine g_istore (n := 49) (lv' := [(4, vi (nI (fX5_bestForFigures (ix h) (I 4 2)))), (3, vi (fX5_rangeFault h 0 40)), (0, vr 0), (1, vi h), (2, vi what)]) ok dX5_hours_47 (by decide) rfl rfl ?_
        refine g_iload_n (n := 50) ok 4 dX5_hours_49 rfl rfl rfl ?_
        refine g_if_ne (n := 53) (tgt := 58) ok dX5_hours_50 (by decide) rfl (fun c7 => ?_) (fun c7 => ?_)
        · rw [if_neg c7]
          have hz8 := ixn (n := 0) ha5 c7 (by omega) (by omega)
          refine g_iload (n := 60) ok 0 dX5_hours_58 rfl rfl ?_
          refine g_iload_n (n := 61) ok 3 dX5_hours_60 rfl rfl rfl ?_
          refine g_iload (n := 63) ok 0 dX5_hours_61 rfl rfl ?_
          refine g_isub (n := 64) ok dX5_hours_63 rfl ?_
          refine g_aload_n (n := 65) ok 2 dX5_hours_64 rfl rfl rfl ?_
          refine g_get (n := 68) (v := vr 1) (c := 5) (k := 0) ok dX5_hours_65 clsX5 (by decide) q154 rfl rfl rfl ?_
          refine g_get (n := 71) (v := vr 4) (c := 3) (k := 2) ok dX5_hours_68 clsX3 (by decide) q69 rfl rfl rfl ?_
          refine g_iconst (n := 72) (v := 2) ok dX5_hours_71 rfl rfl ?_
          refine g_iald (n := 73) (i := 2) (L := 5) ok dX5_hours_72 rfl rfl rfl (by omega) rfl ?_
          refine g_callS (n := 76) (rest := []) (av := [vi (nI (fX5_bestForFigures (ix h) (I 4 2))), vi (h - (nI (fX5_bestForFigures (ix h) (I 4 2)))), vi (I 4 2)]) ok (kX5_marksTogether I (nI (fX5_bestForFigures (ix h) (I 4 2))) (h - (nI (fX5_bestForFigures (ix h) (I 4 2)))) (I 4 2)) knX5_marksTogether q600 q601 dX5_hours_73 rfl rfl (Nat.le_of_ble_eq_true rfl) (by decide) (by decide) rfl ?_
          exact g_iret ok hr dX5_hours_76
        · rw [if_pos c7]
          have hz9 := ixe (n := 0) ha5 c7 (by omega) (by omega)
          refine g_iload (n := 55) ok 0 dX5_hours_53 rfl rfl ?_
          refine g_goto (tgt := 76) ok dX5_hours_55 (by decide) ?_
          exact g_iret ok hr dX5_hours_76
      · exact absurd c1 c6
    · rw [if_pos c4]
      refine g_bipush (n := 23) (v := -2) ok dX5_hours_21 rfl rfl ?_
      refine g_istore_n (n := 24) (lv' := [(3, vi (-2)), (0, vr 0), (1, vi h), (2, vi what)]) ok dX5_hours_23 rfl (by decide) rfl rfl ?_
      refine g_iload_n (n := 25) ok 0 dX5_hours_24 rfl rfl rfl ?_
      refine g_if_eq (n := 28) (tgt := 34) ok dX5_hours_25 (by decide) rfl (fun c10 => ?_) (fun c10 => ?_)
      · exact absurd c10 (by decide)
      · refine g_aload_n (n := 29) ok 1 dX5_hours_28 rfl rfl rfl ?_
        refine g_iload_n (n := 30) ok 0 dX5_hours_29 rfl rfl rfl ?_
        refine g_callV (n := 33) (rest := []) (av := [vi (-2)]) (j := 0) ok (kX5_refuse I (-2)) knX5_refuse q189 q191 qs0 clsX5 rfl dX5_hours_30 rfl rfl (Nat.le_of_ble_eq_true rfl) (by decide) (by decide) rfl ?_
        exact g_iret ok hr dX5_hours_33

noncomputable def fX5_won_x20 (I : HI) (x20_3 : Nat) : Int32 × HI :=
  ((-9), I)
noncomputable def fX5_won_b20 (I : HI) (h : Int32) (x20_3 : Nat) : (Int32 × HI) ⊕ (Nat) :=
  if 100 < nI x20_3 then Sum.inl (fX5_won_x20 I x20_3) else (if nI (fX5_bestForFigures (ix h) (nI x20_3)) ≤ 0 then Sum.inr (x20_3 + 10) else Sum.inl (nI x20_3, I))
noncomputable def fX5_won (I : HI) (h : Int32) : Int32 × HI :=
  if fX5_rangeFault h 0 40 = 0 then whE 120 (fun (s : Nat) => fX5_won_b20 I h s) ((-9), I) 0 else ((fX5_refuse I (fX5_rangeFault h 0 40)).1, ((fX5_refuse I (fX5_rangeFault h 0 40)).2))
theorem knX5_won : Kn yX5_won cX5_won 4 (some .int) 1 := ⟨q606, q1, ⟨by decide, by decide⟩, by decide +kernel⟩
set_option maxHeartbeats 400000 in
set_option maxRecDepth 100000 in
theorem kX5_won (I : HI) (h : Int32) : Cx yX5_won cX5_won 4 (some .int) 2 47 [vr 0, vi h] I ((some (vi (((fX5_won I h).1))), (fX5_won I h).2)) := by
  refine Cx.mk (lv := [(0, vr 0), (1, vi h)]) (by decide) (Nat.le_of_ble_eq_true rfl) rfl (fun E ok hr => ?_)
  rw [fX5_won]
  refine g_iload_n (n := 1) ok 1 dX5_won_0 rfl rfl rfl ?_
  refine g_iconst (n := 2) (v := 0) ok dX5_won_1 rfl rfl ?_
  refine g_bipush (n := 4) (v := 40) ok dX5_won_2 rfl rfl ?_
  refine g_callS (n := 7) (rest := []) (av := [vi h, vi 0, vi 40]) ok (kX5_rangeFault I h 0 40) knX5_rangeFault q186 q187 dX5_won_4 rfl rfl (Nat.le_of_ble_eq_true rfl) (by decide) (by decide) rfl ?_
  refine g_istore_n (n := 8) (lv' := [(2, vi (fX5_rangeFault h 0 40)), (0, vr 0), (1, vi h)]) ok dX5_won_7 rfl (by decide) rfl rfl ?_
  refine g_iload_n (n := 9) ok 0 dX5_won_8 rfl rfl rfl ?_
  refine g_if_eq (n := 12) (tgt := 18) ok dX5_won_9 (by decide) rfl (fun c1 => ?_) (fun c1 => ?_)
  · rw [if_pos c1]
    have ha2 : vp_in h 41 := rangeFault_in (b := 40) c1 (by decide) (by omega)
    have ha2b := vb ha2
    refine g_iconst (n := 19) (v := 0) ok dX5_won_18 rfl rfl ?_
    refine g_istore_n (n := 20) (lv' := [(3, vi 0), (2, vi (fX5_rangeFault h 0 40)), (0, vr 0), (1, vi h)]) ok dX5_won_19 rfl (by decide) rfl rfl ?_
    have X20 : ∀ (x20_3 : Nat) (hw : x20_3 ≤ 110), G E 4 ((some (vi (((fX5_won_x20 I x20_3).1))), (fX5_won_x20 I x20_3).2)) I 42 [] [] := by
      intro x20_3 hw
      rw [fX5_won_x20]
      refine g_bipush (n := 44) (v := -9) ok dX5_won_42 rfl rfl ?_
      exact g_iret ok hr dX5_won_44
    have L20 : ∀ (n20 : Nat) (x20_3 : Nat) (hw : x20_3 ≤ 110) (hm : 110 - x20_3 < n20), G E 4 ((some (vi (((whE n20 (fun (s : Nat) => fX5_won_b20 I h s) ((-9), I) x20_3).1))), (whE n20 (fun (s : Nat) => fX5_won_b20 I h s) ((-9), I) x20_3).2)) I 20 [(3, vi (nI x20_3)), (1, vi h)] [] := by
      intro n20
      induction n20 with
      | zero =>
        intro x20_3 hw hm
        exact absurd hm (Nat.not_lt_zero _)
      | succ n20 ih =>
        intro x20_3 hw hm
        rw [whE_s]
        show G E 4 ((some (vi (((Sum.elim id (fun (s : Nat) => whE n20 (fun (s : Nat) => fX5_won_b20 I h s) ((-9), I) s) (fX5_won_b20 I h x20_3)).1))), (Sum.elim id (fun (s : Nat) => whE n20 (fun (s : Nat) => fX5_won_b20 I h s) ((-9), I) s) (fX5_won_b20 I h x20_3)).2)) _ _ _ _
        rw [fX5_won_b20]
        refine g_iload_n (n := 21) ok 0 dX5_won_20 rfl rfl rfl ?_
        refine g_bipush (n := 23) (v := 100) ok dX5_won_21 rfl rfl ?_
        refine g_icmp_gt (n := 26) (tgt := 42) ok dX5_won_23 (by decide) rfl (fun c3 => ?_) (fun c3 => ?_)
        · rw [if_pos c3]
          refine g_sub [] rfl ?_
          exact X20 x20_3 hw
        · rw [if_neg c3]
          have hle : x20_3 ≤ 100 := le_of_nnlt (b := 100) c3 (by omega)
          refine g_iload_n (n := 27) ok 1 dX5_won_26 rfl rfl rfl ?_
          refine g_iload_n (n := 28) ok 0 dX5_won_27 rfl rfl rfl ?_
          refine g_callS (n := 31) (rest := []) (av := [vi (nI (ix h)), vi (nI x20_3)]) ok (kX5_bestForFigures I (ix h) (nI x20_3) (by first | with_reducible assumption | omega)) knX5_bestForFigures q597 q598 dX5_won_28 (lcons rfl (lcons (congrArg vi (vx ha2)) rfl)) rfl (Nat.le_of_ble_eq_true rfl) (by decide) (by decide) rfl ?_
          refine g_if_le (n := 34) (tgt := 36) ok dX5_won_31 (by decide) rfl (fun c4 => ?_) (fun c4 => ?_)
          · rw [if_pos c4]
            refine g_iinc (n := 39) (v := nI (x20_3 + 10)) (lv' := [(3, vi (nI (x20_3 + 10))), (1, vi h)]) ok 0 dX5_won_36 rfl (nv_iadd (a := x20_3) (b := 10) rfl rfl) (by decide) rfl rfl ?_
            refine g_goto (tgt := 20) ok dX5_won_39 (by decide) ?_
            exact ih (x20_3 + 10) (by omega) (by omega)
          · rw [if_neg c4]
            refine g_iload_n (n := 35) ok 0 dX5_won_34 rfl rfl rfl ?_
            exact g_iret ok hr dX5_won_35
    refine g_sub [0, 3] rfl ?_
    exact L20 120 0 (by omega) (by omega)
  · rw [if_neg c1]
    refine g_aload_n (n := 13) ok 1 dX5_won_12 rfl rfl rfl ?_
    refine g_iload_n (n := 14) ok 0 dX5_won_13 rfl rfl rfl ?_
    refine g_callV (n := 17) (rest := []) (av := [vi (fX5_rangeFault h 0 40)]) (j := 0) ok (kX5_refuse I (fX5_rangeFault h 0 40)) knX5_refuse q189 q191 qs0 clsX5 rfl dX5_won_14 rfl rfl (Nat.le_of_ble_eq_true rfl) (by decide) (by decide) rfl ?_
    exact g_iret ok hr dX5_won_17

noncomputable def fX5_row (I : HI) (v : Int32) : Int32 × HI :=
  if fX5_rangeFault v 0 99 = 0 then (if I 0 7 < 12 then ((up (up I 50 (ix (I 0 7)) v) 0 7 (((up I 50 (ix (I 0 7)) v) 0 7) + 1)) 0 7, (up (up I 50 (ix (I 0 7)) v) 0 7 (((up I 50 (ix (I 0 7)) v) 0 7) + 1))) else ((fX5_refuse I (-6)).1, ((fX5_refuse I (-6)).2))) else ((fX5_refuse I (fX5_rangeFault v 0 99)).1, ((fX5_refuse I (fX5_rangeFault v 0 99)).2))
theorem knX5_row : Kn yX5_row cX5_row 3 (some .int) 1 := ⟨q614, q1, ⟨by decide, by decide⟩, by decide +kernel⟩
set_option maxHeartbeats 400000 in
set_option maxRecDepth 100000 in
theorem kX5_row (I : HI) (v : Int32) (ht : vp_in (I 0 7) 13) : Cx yX5_row cX5_row 3 (some .int) 2 43 [vr 0, vi v] I ((some (vi (((fX5_row I v).1))), (fX5_row I v).2)) := by
  refine Cx.mk (lv := [(0, vr 0), (1, vi v)]) (by decide) (Nat.le_of_ble_eq_true rfl) rfl (fun E ok hr => ?_)
  have ht1 := vb ht
  rw [fX5_row]
  refine g_iload_n (n := 1) ok 1 dX5_row_0 rfl rfl rfl ?_
  refine g_iconst (n := 2) (v := 0) ok dX5_row_1 rfl rfl ?_
  refine g_bipush (n := 4) (v := 99) ok dX5_row_2 rfl rfl ?_
  refine g_callS (n := 7) (rest := []) (av := [vi v, vi 0, vi 99]) ok (kX5_rangeFault I v 0 99) knX5_rangeFault q186 q187 dX5_row_4 rfl rfl (Nat.le_of_ble_eq_true rfl) (by decide) (by decide) rfl ?_
  refine g_istore_n (n := 8) (lv' := [(2, vi (fX5_rangeFault v 0 99)), (0, vr 0), (1, vi v)]) ok dX5_row_7 rfl (by decide) rfl rfl ?_
  refine g_iload_n (n := 9) ok 0 dX5_row_8 rfl rfl rfl ?_
  refine g_if_ne (n := 12) (tgt := 24) ok dX5_row_9 (by decide) rfl (fun c1 => ?_) (fun c1 => ?_)
  · rw [if_neg c1]
    refine g_iload_n (n := 25) ok 0 dX5_row_24 rfl rfl rfl ?_
    refine g_if_eq (n := 28) (tgt := 34) ok dX5_row_25 (by decide) rfl (fun c2 => ?_) (fun c2 => ?_)
    · exact absurd c2 c1
    · refine g_aload_n (n := 29) ok 1 dX5_row_28 rfl rfl rfl ?_
      refine g_iload_n (n := 30) ok 0 dX5_row_29 rfl rfl rfl ?_
      refine g_callV (n := 33) (rest := []) (av := [vi (fX5_rangeFault v 0 99)]) (j := 0) ok (kX5_refuse I (fX5_rangeFault v 0 99)) knX5_refuse q189 q191 qs0 clsX5 rfl dX5_row_30 rfl rfl (Nat.le_of_ble_eq_true rfl) (by decide) (by decide) rfl ?_
      exact g_iret ok hr dX5_row_33
  · rw [if_pos c1]
    have ha3 : vp_in v 100 := rangeFault_in (b := 99) c1 (by decide) (by omega)
    have ha3b := vb ha3
    refine g_aload_n (n := 13) ok 1 dX5_row_12 rfl rfl rfl ?_
    refine g_get (n := 16) (v := vi (I 0 7)) (c := 5) (k := 7) ok dX5_row_13 clsX5 (by decide) q161 rfl rfl rfl ?_
    refine g_bipush (n := 18) (v := 12) ok dX5_row_16 rfl rfl ?_
    refine g_icmp_lt (n := 21) (tgt := 24) ok dX5_row_18 (by decide) rfl (fun c4 => ?_) (fun c4 => ?_)
    · rw [if_pos c4]
      have hz5 := ixlt (n := 12) ht c4 (by omega) (by omega)
      have h12 : ix (I 0 7) < 12 := lt_ix (n := 12) ht c4 (by omega) (by omega)
      refine g_iload_n (n := 25) ok 0 dX5_row_24 rfl rfl rfl ?_
      refine g_if_eq (n := 28) (tgt := 34) ok dX5_row_25 (by decide) rfl (fun c6 => ?_) (fun c6 => ?_)
      · refine g_aload_n (n := 35) ok 1 dX5_row_34 rfl rfl rfl ?_
        refine g_get (n := 38) (v := vr 50) (c := 5) (k := 6) ok dX5_row_35 clsX5 (by decide) q160 rfl rfl rfl ?_
        refine g_aload_n (n := 39) ok 1 dX5_row_38 rfl rfl rfl ?_
        refine g_get (n := 42) (v := vi (I 0 7)) (c := 5) (k := 7) ok dX5_row_39 clsX5 (by decide) q161 rfl rfl rfl ?_
        refine g_iload_n (n := 43) ok 2 dX5_row_42 rfl rfl rfl ?_
        refine g_iast (n := 44) (i := ix (I 0 7)) (L := 12) ok dX5_row_43 rfl rfl (vx ht) (by omega) rfl ?_
        refine g_aload_n (n := 45) ok 1 dX5_row_44 rfl rfl rfl ?_
        refine g_dup (n := 46) ok dX5_row_45 rfl rfl ?_
        refine g_get (n := 49) (v := vi ((up I 50 (ix (I 0 7)) v) 0 7)) (c := 5) (k := 7) ok dX5_row_46 clsX5 (by decide) q161 rfl rfl rfl ?_
        refine g_iconst (n := 50) (v := 1) ok dX5_row_49 rfl rfl ?_
        refine g_iadd (n := 51) ok dX5_row_50 rfl ?_
        refine g_put (n := 54) (J := up (up I 50 (ix (I 0 7)) v) 0 7 (((up I 50 (ix (I 0 7)) v) 0 7) + 1)) (c := 5) (k := 7) ok dX5_row_51 clsX5 tyX5 tyX5_ok nmX5 (by decide) q161 rfl rfl (fun _ => rfl) (fun _ => rfl) (Nat.le_of_ble_eq_true rfl) (fs_5_7 _ _ _) up_ne rfl ?_
        refine g_aload_n (n := 55) ok 1 dX5_row_54 rfl rfl rfl ?_
        refine g_get (n := 58) (v := vi ((up (up I 50 (ix (I 0 7)) v) 0 7 (((up I 50 (ix (I 0 7)) v) 0 7) + 1)) 0 7)) (c := 5) (k := 7) ok dX5_row_55 clsX5 (by decide) q161 rfl rfl rfl ?_
        exact g_iret ok hr dX5_row_58
      · exact absurd c1 c6
    · rw [if_neg c4]
      have hz7 := ixnlt (n := 12) ht c4 (by omega) (by omega)
      refine g_bipush (n := 23) (v := -6) ok dX5_row_21 rfl rfl ?_
      refine g_istore_n (n := 24) (lv' := [(2, vi (-6)), (0, vr 0), (1, vi v)]) ok dX5_row_23 rfl (by decide) rfl rfl ?_
      refine g_iload_n (n := 25) ok 0 dX5_row_24 rfl rfl rfl ?_
      refine g_if_eq (n := 28) (tgt := 34) ok dX5_row_25 (by decide) rfl (fun c8 => ?_) (fun c8 => ?_)
      · exact absurd c8 (by decide)
      · refine g_aload_n (n := 29) ok 1 dX5_row_28 rfl rfl rfl ?_
        refine g_iload_n (n := 30) ok 0 dX5_row_29 rfl rfl rfl ?_
        refine g_callV (n := 33) (rest := []) (av := [vi (-6)]) (j := 0) ok (kX5_refuse I (-6)) knX5_refuse q189 q191 qs0 clsX5 rfl dX5_row_30 rfl rfl (Nat.le_of_ble_eq_true rfl) (by decide) (by decide) rfl ?_
        exact g_iret ok hr dX5_row_33

noncomputable def fX5_judge (I : HI) (trace : Int32) : Int32 × HI :=
  if fX3_hasTrace I trace = 0 then ((fX5_refuse I (-1)).1, ((fX5_refuse I (-1)).2)) else (fX5_firstUnlike I (6 + 2 * (ix trace)), (up I 0 7 0))
theorem knX5_judge : Kn yX5_judge cX5_judge 3 (some .int) 1 := ⟨q618, q1, ⟨by decide, by decide⟩, by decide +kernel⟩
set_option maxHeartbeats 400000 in
set_option maxRecDepth 100000 in
theorem kX5_judge (I : HI) (trace : Int32) (hd : vp_in (I 1 6) 7) (ht : vp_in (I 0 7) 13) : Cx yX5_judge cX5_judge 3 (some .int) 2 43 [vr 0, vi trace] I ((some (vi (((fX5_judge I trace).1))), (fX5_judge I trace).2)) := by
  refine Cx.mk (lv := [(0, vr 0), (1, vi trace)]) (by decide) (Nat.le_of_ble_eq_true rfl) rfl (fun E ok hr => ?_)
  rw [fX5_judge]
  refine g_aload_n (n := 1) ok 0 dX5_judge_0 rfl rfl rfl ?_
  refine g_get (n := 4) (v := vr 1) (c := 5) (k := 0) ok dX5_judge_1 clsX5 (by decide) q154 rfl rfl rfl ?_
  refine g_iload_n (n := 5) ok 1 dX5_judge_4 rfl rfl rfl ?_
  refine g_callV (n := 8) (rest := []) (av := [vi trace]) (j := 1) ok (kX3_hasTrace I trace) knX3_hasTrace q370 q371 q372 clsX3 rfl dX5_judge_5 rfl rfl (Nat.le_of_ble_eq_true rfl) (by decide) (by decide) rfl ?_
  refine g_if_ne (n := 11) (tgt := 17) ok dX5_judge_8 (by decide) rfl (fun c1 => ?_) (fun c1 => ?_)
  · rw [if_neg c1]
    have ha2 : vp_in trace 6 := hasTrace_in hd c1
    have ha2b := vb ha2
    refine g_aload_n (n := 18) ok 0 dX5_judge_17 rfl rfl rfl ?_
    refine g_aload_n (n := 19) ok 0 dX5_judge_18 rfl rfl rfl ?_
    refine g_get (n := 22) (v := vr 1) (c := 5) (k := 0) ok dX5_judge_19 clsX5 (by decide) q154 rfl rfl rfl ?_
    refine g_get (n := 25) (v := vr 5) (c := 3) (k := 5) ok dX5_judge_22 clsX3 (by decide) q80 rfl rfl rfl ?_
    refine g_iload_n (n := 26) ok 1 dX5_judge_25 rfl rfl rfl ?_
    refine g_aald (n := 27) (i := ix trace) (L := 6) ok dX5_judge_26 rfl rfl (vx ha2) (by omega) rfl ?_
    have hT3 : Tr (6 + 2 * (ix trace)) := tr_now (n := ix trace) (by omega)
    refine g_callV (n := 30) (rest := []) (av := [vr (6 + 2 * (ix trace))]) (j := 0) ok (kX5_firstUnlike I (6 + 2 * (ix trace)) hT3 (by first | with_reducible assumption | omega)) knX5_firstUnlike q619 q621 qs21 clsX5 rfl dX5_judge_27 rfl rfl (Nat.le_of_ble_eq_true rfl) (by decide) (by decide) rfl ?_
    refine g_istore_n (n := 31) (lv' := [(2, vi (fX5_firstUnlike I (6 + 2 * (ix trace)))), (0, vr 0), (1, vi trace)]) ok dX5_judge_30 rfl (by decide) rfl rfl ?_
    refine g_aload_n (n := 32) ok 1 dX5_judge_31 rfl rfl rfl ?_
    refine g_iconst (n := 33) (v := 0) ok dX5_judge_32 rfl rfl ?_
    refine g_put (n := 36) (J := up I 0 7 0) (c := 5) (k := 7) ok dX5_judge_33 clsX5 tyX5 tyX5_ok nmX5 (by decide) q161 rfl rfl (fun _ => rfl) (fun _ => rfl) (Nat.le_of_ble_eq_true rfl) (fs_5_7 _ _ _) up_ne rfl ?_
    refine g_iload_n (n := 37) ok 0 dX5_judge_36 rfl rfl rfl ?_
    exact g_iret ok hr dX5_judge_37
  · rw [if_pos c1]
    refine g_aload_n (n := 12) ok 0 dX5_judge_11 rfl rfl rfl ?_
    refine g_iconst (n := 13) (v := -1) ok dX5_judge_12 rfl rfl ?_
    refine g_callV (n := 16) (rest := []) (av := [vi (-1)]) (j := 0) ok (kX5_refuse I (-1)) knX5_refuse q189 q191 qs0 clsX5 rfl dX5_judge_13 rfl rfl (Nat.le_of_ble_eq_true rfl) (by decide) (by decide) rfl ?_
    exact g_iret ok hr dX5_judge_16

noncomputable def fX5_clear (I : HI) : Int32 × HI :=
  (I 0 7, (up I 0 7 0))
theorem knX5_clear : Kn yX5_clear cX5_clear 2 (some .int) 0 := ⟨q626, q1, ⟨by decide, by decide⟩, by decide +kernel⟩
set_option maxHeartbeats 400000 in
set_option maxRecDepth 100000 in
theorem kX5_clear (I : HI) : Cx yX5_clear cX5_clear 2 (some .int) 0 0 [vr 0] I ((some (vi (((fX5_clear I).1))), (fX5_clear I).2)) := by
  refine Cx.mk (lv := [(0, vr 0)]) (by decide) (Nat.le_of_ble_eq_true rfl) rfl (fun E ok hr => ?_)
  rw [fX5_clear]
  refine g_aload_n (n := 1) ok 0 dX5_clear_0 rfl rfl rfl ?_
  refine g_get (n := 4) (v := vi (I 0 7)) (c := 5) (k := 7) ok dX5_clear_1 clsX5 (by decide) q161 rfl rfl rfl ?_
  refine g_istore_n (n := 5) (lv' := [(1, vi (I 0 7)), (0, vr 0)]) ok dX5_clear_4 rfl (by decide) rfl rfl ?_
  refine g_aload_n (n := 6) ok 1 dX5_clear_5 rfl rfl rfl ?_
  refine g_iconst (n := 7) (v := 0) ok dX5_clear_6 rfl rfl ?_
  refine g_put (n := 10) (J := up I 0 7 0) (c := 5) (k := 7) ok dX5_clear_7 clsX5 tyX5 tyX5_ok nmX5 (by decide) q161 rfl rfl (fun _ => rfl) (fun _ => rfl) (Nat.le_of_ble_eq_true rfl) (fs_5_7 _ _ _) up_ne rfl ?_
  refine g_iload_n (n := 11) ok 0 dX5_clear_10 rfl rfl rfl ?_
  exact g_iret ok hr dX5_clear_11

noncomputable def fX5_seeds (I : HI) (n : Int32) (z : Int32) (what : Int32) : Int32 × HI :=
  if fX5_rangeFault n 1 20 = 0 then (if fX5_within what 0 1 = 0 then ((fX5_refuse I (-2)).1, ((fX5_refuse I (-2)).2)) else ((fX1_practice I (ix n) z what).1, ((fX1_practice I (ix n) z what).2))) else ((fX5_refuse I (fX5_rangeFault n 1 20)).1, ((fX5_refuse I (fX5_rangeFault n 1 20)).2))
theorem knX5_seeds : Kn yX5_seeds cX5_seeds 5 (some .int) 3 := ⟨q630, q1, ⟨by decide, by decide⟩, by decide +kernel⟩
set_option maxHeartbeats 400000 in
set_option maxRecDepth 100000 in
theorem kX5_seeds (I : HI) (n : Int32) (z : Int32) (what : Int32) (hd : vp_in (I 1 6) 7) : Cx yX5_seeds cX5_seeds 5 (some .int) 5 134 [vr 0, vi n, vi z, vi what] I ((some (vi (((fX5_seeds I n z what).1))), (fX5_seeds I n z what).2)) := by
  refine Cx.mk (lv := [(0, vr 0), (1, vi n), (2, vi z), (3, vi what)]) (by decide) (Nat.le_of_ble_eq_true rfl) rfl (fun E ok hr => ?_)
  rw [fX5_seeds]
  refine g_iload_n (n := 1) ok 1 dX5_seeds_0 rfl rfl rfl ?_
  refine g_iconst (n := 2) (v := 1) ok dX5_seeds_1 rfl rfl ?_
  refine g_bipush (n := 4) (v := 20) ok dX5_seeds_2 rfl rfl ?_
  refine g_callS (n := 7) (rest := []) (av := [vi n, vi 1, vi 20]) ok (kX5_rangeFault I n 1 20) knX5_rangeFault q186 q187 dX5_seeds_4 rfl rfl (Nat.le_of_ble_eq_true rfl) (by decide) (by decide) rfl ?_
  refine g_istore (n := 9) (lv' := [(4, vi (fX5_rangeFault n 1 20)), (0, vr 0), (1, vi n), (2, vi z), (3, vi what)]) ok dX5_seeds_7 (by decide) rfl rfl ?_
  refine g_iload (n := 11) ok 0 dX5_seeds_9 rfl rfl ?_
  refine g_if_ne (n := 14) (tgt := 27) ok dX5_seeds_11 (by decide) rfl (fun c1 => ?_) (fun c1 => ?_)
  · rw [if_neg c1]
    refine g_iload (n := 29) ok 0 dX5_seeds_27 rfl rfl ?_
    refine g_if_eq (n := 32) (tgt := 41) ok dX5_seeds_29 (by decide) rfl (fun c2 => ?_) (fun c2 => ?_)
    · exact absurd c2 c1
    · refine g_aload_n (n := 33) ok 1 dX5_seeds_32 rfl rfl rfl ?_
      refine g_iload (n := 35) ok 0 dX5_seeds_33 rfl rfl ?_
      refine g_callV (n := 38) (rest := []) (av := [vi (fX5_rangeFault n 1 20)]) (j := 0) ok (kX5_refuse I (fX5_rangeFault n 1 20)) knX5_refuse q189 q191 qs0 clsX5 rfl dX5_seeds_35 rfl rfl (Nat.le_of_ble_eq_true rfl) (by decide) (by decide) rfl ?_
      refine g_goto (tgt := 51) ok dX5_seeds_38 (by decide) ?_
      exact g_iret ok hr dX5_seeds_51
  · rw [if_pos c1]
    have ha3 : vp_in n 21 := rangeFault_in (b := 20) c1 (by decide) (by omega)
    have ha3b := vb ha3
    refine g_iload_n (n := 15) ok 4 dX5_seeds_14 rfl rfl rfl ?_
    refine g_iconst (n := 16) (v := 0) ok dX5_seeds_15 rfl rfl ?_
    refine g_iconst (n := 17) (v := 1) ok dX5_seeds_16 rfl rfl ?_
    refine g_callS (n := 20) (rest := []) (av := [vi what, vi 0, vi 1]) ok (kX5_within I what 0 1) knX5_within q193 q194 dX5_seeds_17 rfl rfl (Nat.le_of_ble_eq_true rfl) (by decide) (by decide) rfl ?_
    refine g_if_ne (n := 23) (tgt := 27) ok dX5_seeds_20 (by decide) rfl (fun c4 => ?_) (fun c4 => ?_)
    · rw [if_neg c4]
      have ha5 : vp_in what 2 := within_in (b := 1) c4 (by omega)
      have ha5b := vb ha5
      refine g_iload (n := 29) ok 0 dX5_seeds_27 rfl rfl ?_
      refine g_if_eq (n := 32) (tgt := 41) ok dX5_seeds_29 (by decide) rfl (fun c6 => ?_) (fun c6 => ?_)
      · refine g_aload_n (n := 42) ok 1 dX5_seeds_41 rfl rfl rfl ?_
        refine g_get (n := 45) (v := vr 37) (c := 5) (k := 4) ok dX5_seeds_42 clsX5 (by decide) q158 rfl rfl rfl ?_
        refine g_iload_n (n := 46) ok 2 dX5_seeds_45 rfl rfl rfl ?_
        refine g_iload_n (n := 47) ok 3 dX5_seeds_46 rfl rfl rfl ?_
        refine g_iload_n (n := 48) ok 4 dX5_seeds_47 rfl rfl rfl ?_
        refine g_callV (n := 51) (rest := []) (av := [vi (nI (ix n)), vi z, vi what]) (j := 37) ok (kX1_practice I (ix n) z what (by first | with_reducible assumption | omega) (by first | with_reducible assumption | omega)) knX1_practice q631 q632 q633 clsX1 rfl dX5_seeds_48 (lcons rfl (lcons rfl (lcons (congrArg vi (vx ha3)) (lcons rfl rfl)))) rfl (Nat.le_of_ble_eq_true rfl) (by decide) (by decide) rfl ?_
        exact g_iret ok hr dX5_seeds_51
      · exact absurd c1 c6
    · rw [if_pos c4]
      refine g_bipush (n := 25) (v := -2) ok dX5_seeds_23 rfl rfl ?_
      refine g_istore (n := 27) (lv' := [(4, vi (-2)), (0, vr 0), (1, vi n), (2, vi z), (3, vi what)]) ok dX5_seeds_25 (by decide) rfl rfl ?_
      refine g_iload (n := 29) ok 0 dX5_seeds_27 rfl rfl ?_
      refine g_if_eq (n := 32) (tgt := 41) ok dX5_seeds_29 (by decide) rfl (fun c7 => ?_) (fun c7 => ?_)
      · exact absurd c7 (by decide)
      · refine g_aload_n (n := 33) ok 1 dX5_seeds_32 rfl rfl rfl ?_
        refine g_iload (n := 35) ok 0 dX5_seeds_33 rfl rfl ?_
        refine g_callV (n := 38) (rest := []) (av := [vi (-2)]) (j := 0) ok (kX5_refuse I (-2)) knX5_refuse q189 q191 qs0 clsX5 rfl dX5_seeds_35 rfl rfl (Nat.le_of_ble_eq_true rfl) (by decide) (by decide) rfl ?_
        refine g_goto (tgt := 51) ok dX5_seeds_38 (by decide) ?_
        exact g_iret ok hr dX5_seeds_51

noncomputable def fX5_image (I : HI) : Int32 × HI :=
  ((up (fX3_copyFrom_k I) 0 2 1) 18 6, (up (fX3_copyFrom_k I) 0 2 1))
theorem knX5_image : Kn yX5_image cX5_image 1 (some .int) 0 := ⟨q645, q1, ⟨by decide, by decide⟩, by decide +kernel⟩
set_option maxHeartbeats 400000 in
set_option maxRecDepth 100000 in
theorem kX5_image (I : HI) : Cx yX5_image cX5_image 1 (some .int) 3 83 [vr 0] I ((some (vi (((fX5_image I).1))), (fX5_image I).2)) := by
  refine Cx.mk (lv := [(0, vr 0)]) (by decide) (Nat.le_of_ble_eq_true rfl) rfl (fun E ok hr => ?_)
  rw [fX5_image]
  refine g_aload_n (n := 1) ok 0 dX5_image_0 rfl rfl rfl ?_
  refine g_get (n := 4) (v := vr 18) (c := 5) (k := 1) ok dX5_image_1 clsX5 (by decide) q155 rfl rfl rfl ?_
  refine g_aload_n (n := 5) ok 0 dX5_image_4 rfl rfl rfl ?_
  refine g_get (n := 8) (v := vr 1) (c := 5) (k := 0) ok dX5_image_5 clsX5 (by decide) q154 rfl rfl rfl ?_
  refine g_callVv (n := 11) (rest := []) (av := [vr 1]) (j := 18) ok (kX3_copyFrom_k I) knX3_copyFrom q646 q647 q648 clsX3 rfl dX5_image_8 rfl rfl (Nat.le_of_ble_eq_true rfl) (by decide) (by decide) rfl ?_
  refine g_aload_n (n := 12) ok 0 dX5_image_11 rfl rfl rfl ?_
  refine g_iconst (n := 13) (v := 1) ok dX5_image_12 rfl rfl ?_
  refine g_put (n := 16) (J := up (fX3_copyFrom_k I) 0 2 1) (c := 5) (k := 2) ok dX5_image_13 clsX5 tyX5 tyX5_ok nmX5 (by decide) q156 rfl rfl (bnar (by decide)) (bfit (by decide)) (Nat.le_of_ble_eq_true rfl) (fs_5_2 _ _ _) up_ne rfl ?_
  refine g_aload_n (n := 17) ok 0 dX5_image_16 rfl rfl rfl ?_
  refine g_get (n := 20) (v := vr 18) (c := 5) (k := 1) ok dX5_image_17 clsX5 (by decide) q155 rfl rfl rfl ?_
  refine g_get (n := 23) (v := vi ((up (fX3_copyFrom_k I) 0 2 1) 18 6)) (c := 3) (k := 6) ok dX5_image_20 clsX3 (by decide) q84 rfl rfl rfl ?_
  exact g_iret ok hr dX5_image_23

noncomputable def fX5_restore (I : HI) : Int32 × HI :=
  if I 0 2 = 0 then ((fX5_refuse I (-3)).1, ((fX5_refuse I (-3)).2)) else ((fX3_copyFrom_n I) 1 6, (fX3_copyFrom_n I))
theorem knX5_restore : Kn yX5_restore cX5_restore 1 (some .int) 0 := ⟨q659, q1, ⟨by decide, by decide⟩, by decide +kernel⟩
set_option maxHeartbeats 400000 in
set_option maxRecDepth 100000 in
theorem kX5_restore (I : HI) : Cx yX5_restore cX5_restore 1 (some .int) 3 83 [vr 0] I ((some (vi (((fX5_restore I).1))), (fX5_restore I).2)) := by
  refine Cx.mk (lv := [(0, vr 0)]) (by decide) (Nat.le_of_ble_eq_true rfl) rfl (fun E ok hr => ?_)
  rw [fX5_restore]
  refine g_aload_n (n := 1) ok 0 dX5_restore_0 rfl rfl rfl ?_
  refine g_get (n := 4) (v := vi (I 0 2)) (c := 5) (k := 2) ok dX5_restore_1 clsX5 (by decide) q156 rfl rfl rfl ?_
  refine g_if_ne (n := 7) (tgt := 14) ok dX5_restore_4 (by decide) rfl (fun c1 => ?_) (fun c1 => ?_)
  · rw [if_neg c1]
    refine g_aload_n (n := 15) ok 0 dX5_restore_14 rfl rfl rfl ?_
    refine g_get (n := 18) (v := vr 1) (c := 5) (k := 0) ok dX5_restore_15 clsX5 (by decide) q154 rfl rfl rfl ?_
    refine g_aload_n (n := 19) ok 0 dX5_restore_18 rfl rfl rfl ?_
    refine g_get (n := 22) (v := vr 18) (c := 5) (k := 1) ok dX5_restore_19 clsX5 (by decide) q155 rfl rfl rfl ?_
    refine g_callVv (n := 25) (rest := []) (av := [vr 18]) (j := 1) ok (kX3_copyFrom_n I) knX3_copyFrom q646 q647 q648 clsX3 rfl dX5_restore_22 rfl rfl (Nat.le_of_ble_eq_true rfl) (by decide) (by decide) rfl ?_
    refine g_aload_n (n := 26) ok 0 dX5_restore_25 rfl rfl rfl ?_
    refine g_get (n := 29) (v := vr 1) (c := 5) (k := 0) ok dX5_restore_26 clsX5 (by decide) q154 rfl rfl rfl ?_
    refine g_get (n := 32) (v := vi ((fX3_copyFrom_n I) 1 6)) (c := 3) (k := 6) ok dX5_restore_29 clsX3 (by decide) q84 rfl rfl rfl ?_
    exact g_iret ok hr dX5_restore_32
  · rw [if_pos c1]
    refine g_aload_n (n := 8) ok 0 dX5_restore_7 rfl rfl rfl ?_
    refine g_bipush (n := 10) (v := -3) ok dX5_restore_8 rfl rfl ?_
    refine g_callV (n := 13) (rest := []) (av := [vi (-3)]) (j := 0) ok (kX5_refuse I (-3)) knX5_refuse q189 q191 qs0 clsX5 rfl dX5_restore_10 rfl rfl (Nat.le_of_ble_eq_true rfl) (by decide) (by decide) rfl ?_
    exact g_iret ok hr dX5_restore_13

noncomputable def fX5_count (I : HI) (what : Int32) : Int32 :=
  if fX5_within what 11 16 = 0 then (if fX5_within what 20 24 = 0 then (if what = 0 then I 1 6 else (if what = 1 then fX3_tracesOf I 0 else (if what = 2 then I 1 3 else (if what = 3 then I 1 4 else (if what = 4 then fX5_allHard I else (if what = 5 then fX5_oldLines I else (if what = 6 then I 47 1 else (if what = 7 then I 0 7 else (-9))))))))) else I 4 ((ix what) - 20)) else I 51 ((ix what) - 10)
theorem knX5_count : Kn yX5_count cX5_count 2 (some .int) 1 := ⟨q663, q1, ⟨by decide, by decide⟩, by decide +kernel⟩
set_option maxHeartbeats 400000 in
set_option maxRecDepth 100000 in
theorem kX5_count (I : HI) (what : Int32) (hd : vp_in (I 1 6) 7) : Cx yX5_count cX5_count 2 (some .int) 1 23 [vr 0, vi what] I ((some (vi ((fX5_count I what))), I)) := by
  refine Cx.mk (lv := [(0, vr 0), (1, vi what)]) (by decide) (Nat.le_of_ble_eq_true rfl) rfl (fun E ok hr => ?_)
  rw [fX5_count]
  refine g_iload_n (n := 1) ok 1 dX5_count_0 rfl rfl rfl ?_
  refine g_bipush (n := 3) (v := 11) ok dX5_count_1 rfl rfl ?_
  refine g_bipush (n := 5) (v := 16) ok dX5_count_3 rfl rfl ?_
  refine g_callS (n := 8) (rest := []) (av := [vi what, vi 11, vi 16]) ok (kX5_within I what 11 16) knX5_within q193 q194 dX5_count_5 rfl rfl (Nat.le_of_ble_eq_true rfl) (by decide) (by decide) rfl ?_
  refine g_if_eq (n := 11) (tgt := 21) ok dX5_count_8 (by decide) rfl (fun c1 => ?_) (fun c1 => ?_)
  · rw [if_pos c1]
    refine g_iload_n (n := 22) ok 1 dX5_count_21 rfl rfl rfl ?_
    refine g_bipush (n := 24) (v := 20) ok dX5_count_22 rfl rfl ?_
    refine g_bipush (n := 26) (v := 24) ok dX5_count_24 rfl rfl ?_
    refine g_callS (n := 29) (rest := []) (av := [vi what, vi 20, vi 24]) ok (kX5_within I what 20 24) knX5_within q193 q194 dX5_count_26 rfl rfl (Nat.le_of_ble_eq_true rfl) (by decide) (by decide) rfl ?_
    refine g_if_eq (n := 32) (tgt := 45) ok dX5_count_29 (by decide) rfl (fun c2 => ?_) (fun c2 => ?_)
    · rw [if_pos c2]
      refine g_iload_n (n := 46) ok 1 dX5_count_45 rfl rfl rfl ?_
      by_cases c3 : what = 0
      · rw [if_pos c3]
        refine g_tabIn (off := 46) (tgt := 92) ok dX5_count_46 (by rw [c3]; decide) (by rw [c3]; decide) (by rw [c3]; rfl) (by decide) ?_
        refine g_aload_n (n := 93) ok 0 dX5_count_92 rfl rfl rfl ?_
        refine g_get (n := 96) (v := vr 1) (c := 5) (k := 0) ok dX5_count_93 clsX5 (by decide) q154 rfl rfl rfl ?_
        refine g_get (n := 99) (v := vi (I 1 6)) (c := 3) (k := 6) ok dX5_count_96 clsX3 (by decide) q84 rfl rfl rfl ?_
        exact g_iret ok hr dX5_count_99
      · rw [if_neg c3]
        by_cases c4 : what = 1
        · rw [if_pos c4]
          refine g_tabIn (off := 54) (tgt := 100) ok dX5_count_46 (by rw [c4]; decide) (by rw [c4]; decide) (by rw [c4]; rfl) (by decide) ?_
          refine g_aload_n (n := 101) ok 0 dX5_count_100 rfl rfl rfl ?_
          refine g_get (n := 104) (v := vr 1) (c := 5) (k := 0) ok dX5_count_101 clsX5 (by decide) q154 rfl rfl rfl ?_
          refine g_iconst (n := 105) (v := 0) ok dX5_count_104 rfl rfl ?_
          refine g_callV (n := 108) (rest := []) (av := [vi 0]) (j := 1) ok (kX3_tracesOf I 0 (by first | with_reducible assumption | omega)) knX3_tracesOf q448 q449 q450 clsX3 rfl dX5_count_105 rfl rfl (Nat.le_of_ble_eq_true rfl) (by decide) (by decide) rfl ?_
          exact g_iret ok hr dX5_count_108
        · rw [if_neg c4]
          by_cases c5 : what = 2
          · rw [if_pos c5]
            refine g_tabIn (off := 63) (tgt := 109) ok dX5_count_46 (by rw [c5]; decide) (by rw [c5]; decide) (by rw [c5]; rfl) (by decide) ?_
            refine g_aload_n (n := 110) ok 0 dX5_count_109 rfl rfl rfl ?_
            refine g_get (n := 113) (v := vr 1) (c := 5) (k := 0) ok dX5_count_110 clsX5 (by decide) q154 rfl rfl rfl ?_
            refine g_get (n := 116) (v := vi (I 1 3)) (c := 3) (k := 3) ok dX5_count_113 clsX3 (by decide) q73 rfl rfl rfl ?_
            exact g_iret ok hr dX5_count_116
          · rw [if_neg c5]
            by_cases c6 : what = 3
            · rw [if_pos c6]
              refine g_tabIn (off := 71) (tgt := 117) ok dX5_count_46 (by rw [c6]; decide) (by rw [c6]; decide) (by rw [c6]; rfl) (by decide) ?_
              refine g_aload_n (n := 118) ok 0 dX5_count_117 rfl rfl rfl ?_
              refine g_get (n := 121) (v := vr 1) (c := 5) (k := 0) ok dX5_count_118 clsX5 (by decide) q154 rfl rfl rfl ?_
              refine g_get (n := 124) (v := vi (I 1 4)) (c := 3) (k := 4) ok dX5_count_121 clsX3 (by decide) q76 rfl rfl rfl ?_
              exact g_iret ok hr dX5_count_124
            · rw [if_neg c6]
              by_cases c7 : what = 4
              · rw [if_pos c7]
                refine g_tabIn (off := 79) (tgt := 125) ok dX5_count_46 (by rw [c7]; decide) (by rw [c7]; decide) (by rw [c7]; rfl) (by decide) ?_
                refine g_aload_n (n := 126) ok 0 dX5_count_125 rfl rfl rfl ?_
                refine g_callV (n := 129) (rest := []) (av := []) (j := 0) ok (kX5_allHard I) knX5_allHard q664 q666 qs23 clsX5 rfl dX5_count_126 rfl rfl (Nat.le_of_ble_eq_true rfl) (by decide) (by decide) rfl ?_
                exact g_iret ok hr dX5_count_129
              · rw [if_neg c7]
                by_cases c8 : what = 5
                · rw [if_pos c8]
                  refine g_tabIn (off := 84) (tgt := 130) ok dX5_count_46 (by rw [c8]; decide) (by rw [c8]; decide) (by rw [c8]; rfl) (by decide) ?_
                  refine g_aload_n (n := 131) ok 0 dX5_count_130 rfl rfl rfl ?_
                  refine g_callV (n := 134) (rest := []) (av := []) (j := 0) ok (kX5_oldLines I) knX5_oldLines q668 q670 qs24 clsX5 rfl dX5_count_131 rfl rfl (Nat.le_of_ble_eq_true rfl) (by decide) (by decide) rfl ?_
                  exact g_iret ok hr dX5_count_134
                · rw [if_neg c8]
                  by_cases c9 : what = 6
                  · rw [if_pos c9]
                    refine g_tabIn (off := 89) (tgt := 135) ok dX5_count_46 (by rw [c9]; decide) (by rw [c9]; decide) (by rw [c9]; rfl) (by decide) ?_
                    refine g_aload_n (n := 136) ok 0 dX5_count_135 rfl rfl rfl ?_
                    refine g_get (n := 139) (v := vr 47) (c := 5) (k := 5) ok dX5_count_136 clsX5 (by decide) q159 rfl rfl rfl ?_
                    refine g_get (n := 142) (v := vi (I 47 1)) (c := 0) (k := 1) ok dX5_count_139 clsX0 (by decide) q139 rfl rfl rfl ?_
                    exact g_iret ok hr dX5_count_142
                  · rw [if_neg c9]
                    by_cases c10 : what = 7
                    · rw [if_pos c10]
                      refine g_tabIn (off := 97) (tgt := 143) ok dX5_count_46 (by rw [c10]; decide) (by rw [c10]; decide) (by rw [c10]; rfl) (by decide) ?_
                      refine g_aload_n (n := 144) ok 0 dX5_count_143 rfl rfl rfl ?_
                      refine g_get (n := 147) (v := vi (I 0 7)) (c := 5) (k := 7) ok dX5_count_144 clsX5 (by decide) q161 rfl rfl rfl ?_
                      exact g_iret ok hr dX5_count_147
                    · rw [if_neg c10]
                      refine g_tabOut (tgt := 148) ok dX5_count_46 (by have h0 : what.toInt ≠ 0 := ne_toInt c3; have h1 : what.toInt ≠ 1 := ne_toInt c4; have h2 : what.toInt ≠ 2 := ne_toInt c5; have h3 : what.toInt ≠ 3 := ne_toInt c6; have h4 : what.toInt ≠ 4 := ne_toInt c7; have h5 : what.toInt ≠ 5 := ne_toInt c8; have h6 : what.toInt ≠ 6 := ne_toInt c9; have h7 : what.toInt ≠ 7 := ne_toInt c10; omega) (by decide) ?_
                      refine g_bipush (n := 150) (v := -9) ok dX5_count_148 rfl rfl ?_
                      exact g_iret ok hr dX5_count_150
    · rw [if_neg c2]
      have ha11 : vp_in what 25 := within_in2 (a := 20) (b := 24) c2 (by omega) (by omega)
      have ha11b := vb ha11
      have hx12 := within_ge (a := 20) (b := 24) c2 (by omega) (by omega)
      refine g_aload_n (n := 33) ok 0 dX5_count_32 rfl rfl rfl ?_
      refine g_get (n := 36) (v := vr 1) (c := 5) (k := 0) ok dX5_count_33 clsX5 (by decide) q154 rfl rfl rfl ?_
      refine g_get (n := 39) (v := vr 4) (c := 3) (k := 2) ok dX5_count_36 clsX3 (by decide) q69 rfl rfl rfl ?_
      refine g_iload_n (n := 40) ok 1 dX5_count_39 rfl rfl rfl ?_
      refine g_bipush (n := 42) (v := 20) ok dX5_count_40 rfl rfl ?_
      refine g_isub (n := 43) ok dX5_count_42 rfl ?_
      refine g_top (nv_isub (a := ix what) (b := 20) (vx ha11) rfl (by omega)) ?_
      refine g_iald (n := 44) (i := (ix what) - 20) (L := 5) ok dX5_count_43 rfl rfl rfl (by omega) rfl ?_
      exact g_iret ok hr dX5_count_44
  · rw [if_neg c1]
    have ha13 : vp_in what 17 := within_in2 (a := 11) (b := 16) c1 (by omega) (by omega)
    have ha13b := vb ha13
    have hx14 := within_ge (a := 11) (b := 16) c1 (by omega) (by omega)
    refine g_aload_n (n := 12) ok 0 dX5_count_11 rfl rfl rfl ?_
    refine g_get (n := 15) (v := vr 51) (c := 5) (k := 8) ok dX5_count_12 clsX5 (by decide) q162 rfl rfl rfl ?_
    refine g_iload_n (n := 16) ok 1 dX5_count_15 rfl rfl rfl ?_
    refine g_bipush (n := 18) (v := 10) ok dX5_count_16 rfl rfl ?_
    refine g_isub (n := 19) ok dX5_count_18 rfl ?_
    refine g_top (nv_isub (a := ix what) (b := 10) (vx ha13) rfl (by omega)) ?_
    refine g_iald (n := 20) (i := (ix what) - 10) (L := 7) ok dX5_count_19 rfl rfl rfl (by omega) rfl ?_
    exact g_iret ok hr dX5_count_20

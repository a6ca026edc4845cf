noncomputable def fX5_fitsSetting (I : HI) (s : Nat) (v : Int32) : Int32 :=
  fX5_within v (sLeast s) (sMost s)
theorem zX5_fitsSetting (I : HI) (s : Nat) (v : Int32) : (fX5_fitsSetting I s v) = 0 ∨ (fX5_fitsSetting I s v) = 1 := by
  unfold fX5_fitsSetting
  repeat' (first | (split) | exact Or.inl rfl | exact Or.inr rfl | exact zX5_within ..)
theorem knX5_fitsSetting : Kn yX5_fitsSetting cX5_fitsSetting 2 (some .boolean) 2 := ⟨q255, q1, ⟨by decide, by decide⟩, by decide +kernel⟩
set_option maxHeartbeats 400000 in
set_option maxRecDepth 100000 in
theorem kX5_fitsSetting (I : HI) (s : Nat) (v : Int32) (hs : s < 5) : Cx yX5_fitsSetting cX5_fitsSetting 2 (some .boolean) 1 22 [vi (nI s), vi v] I ((some (vi ((fX5_fitsSetting I s v))), I)) := by
  refine Cx.mk (lv := [(0, vi (nI s)), (1, vi v)]) (by decide) (Nat.le_of_ble_eq_true rfl) rfl (fun E ok hr => ?_)
  rw [fX5_fitsSetting]
  refine g_iload_n (n := 1) ok 1 dX5_fitsSetting_0 rfl rfl rfl ?_
  refine g_gets1 (n := 4) ok dX5_fitsSetting_1 q256 rfl ?_
  refine g_iload_n (n := 5) ok 0 dX5_fitsSetting_4 rfl rfl rfl ?_
  refine g_ti1 (n := 6) (i := s) ok dX5_fitsSetting_5 rfl (by omega) rfl ?_
  refine g_gets2 (n := 9) ok dX5_fitsSetting_6 q258 rfl ?_
  refine g_iload_n (n := 10) ok 0 dX5_fitsSetting_9 rfl rfl rfl ?_
  refine g_ti2 (n := 11) (i := s) ok dX5_fitsSetting_10 rfl (by omega) rfl ?_
  refine g_callS (n := 14) (rest := []) (av := [vi v, vi (sLeast s), vi (sMost s)]) ok (kX5_within I v (sLeast s) (sMost s)) knX5_within q193 q194 dX5_fitsSetting_11 rfl rfl (Nat.le_of_ble_eq_true rfl) (by decide) (by decide) rfl ?_
  exact g_zret (x := fX5_within v (sLeast s) (sMost s)) ok hr dX5_fitsSetting_14 (by first | exact zX5_within .. | exact zX5_within)

noncomputable def fX0_signAt (I : HI) (p : Int32) : Int32 :=
  if p < 0 then (-9) else (if I 47 1 ≤ p then (-9) else I 48 (ix p))
theorem knX0_signAt : Kn yX0_signAt cX0_signAt 2 (some .int) 1 := ⟨q219, q7, ⟨by decide, by decide⟩, by decide +kernel⟩
set_option maxHeartbeats 400000 in
set_option maxRecDepth 100000 in
theorem kX0_signAt (I : HI) (p : Int32) (hm : vp_in (I 47 1) 97) : Cx yX0_signAt cX0_signAt 2 (some .int) 0 0 [vr 47, vi p] I ((some (vi ((fX0_signAt I p))), I)) := by
  refine Cx.mk (lv := [(0, vr 47), (1, vi p)]) (by decide) (Nat.le_of_ble_eq_true rfl) rfl (fun E ok hr => ?_)
  rw [fX0_signAt]
  refine g_iload_n (n := 1) ok 1 dX0_signAt_0 rfl rfl rfl ?_
  refine g_if_lt (n := 4) (tgt := 21) ok dX0_signAt_1 (by decide) rfl (fun c1 => ?_) (fun c1 => ?_)
  · rw [if_pos c1]
    refine g_bipush (n := 23) (v := -9) ok dX0_signAt_21 rfl rfl ?_
    exact g_iret ok hr dX0_signAt_23
  · rw [if_neg c1]
    have hge := c1
    refine g_iload_n (n := 5) ok 1 dX0_signAt_4 rfl rfl rfl ?_
    refine g_aload_n (n := 6) ok 0 dX0_signAt_5 rfl rfl rfl ?_
    refine g_get (n := 9) (v := vi (I 47 1)) (c := 0) (k := 1) ok dX0_signAt_6 clsX0 (by decide) q138 rfl rfl rfl ?_
    refine g_icmp_ge (n := 12) (tgt := 21) ok dX0_signAt_9 (by decide) rfl (fun c2 => ?_) (fun c2 => ?_)
    · rw [if_pos c2]
      refine g_bipush (n := 23) (v := -9) ok dX0_signAt_21 rfl rfl ?_
      exact g_iret ok hr dX0_signAt_23
    · rw [if_neg c2]
      have ha : vp_in p 96 := in_lt hge c2 hm (by omega)
      have hab := vb ha
      refine g_aload_n (n := 13) ok 0 dX0_signAt_12 rfl rfl rfl ?_
      refine g_get (n := 16) (v := vr 48) (c := 0) (k := 0) ok dX0_signAt_13 clsX0 (by decide) q137 rfl rfl rfl ?_
      refine g_iload_n (n := 17) ok 1 dX0_signAt_16 rfl rfl rfl ?_
      refine g_iald (n := 18) (i := ix p) (L := 96) ok dX0_signAt_17 rfl rfl (vx ha) (by omega) rfl ?_
      refine g_goto (tgt := 23) ok dX0_signAt_18 (by decide) ?_
      exact g_iret ok hr dX0_signAt_23

noncomputable def fX0_add (I : HI) (sign : Int32) : HI :=
  if 96 ≤ I 47 1 then I else (up (up I 48 (ix (I 47 1)) sign) 47 1 (((up I 48 (ix (I 47 1)) sign) 47 1) + 1))
theorem knX0_add : Kn yX0_add cX0_add 2 none 1 := ⟨q199, q7, ⟨by decide, by decide⟩, by decide +kernel⟩
set_option maxHeartbeats 400000 in
set_option maxRecDepth 100000 in
theorem kX0_add (I : HI) (sign : Int32) (hm : vp_in (I 47 1) 97) : Cx yX0_add cX0_add 2 none 0 0 [vr 47, vi sign] I ((none, fX0_add I sign)) := by
  refine Cx.mk (lv := [(0, vr 47), (1, vi sign)]) (by decide) (Nat.le_of_ble_eq_true rfl) rfl (fun E ok hr => ?_)
  rw [fX0_add]
  refine g_aload_n (n := 1) ok 0 dX0_add_0 rfl rfl rfl ?_
  refine g_get (n := 4) (v := vi (I 47 1)) (c := 0) (k := 1) ok dX0_add_1 clsX0 (by decide) q138 rfl rfl rfl ?_
  refine g_bipush (n := 6) (v := 96) ok dX0_add_4 rfl rfl ?_
  refine g_icmp_ge (n := 9) (tgt := 29) ok dX0_add_6 (by decide) rfl (fun c1 => ?_) (fun c1 => ?_)
  · rw [if_pos c1]
    have hz2 := ixge (n := 96) hm c1 (by omega) (by omega)
    exact g_vret ok hr dX0_add_29
  · rw [if_neg c1]
    have hz3 := ixnge (n := 96) hm c1 (by omega) (by omega)
    have h9 : ix (I 47 1) < 96 := lt_of_nnle (a := ix (I 47 1)) (b := 96) (by rw [← vx hm]; exact c1) (by have := vb hm; omega)
    refine g_aload_n (n := 10) ok 0 dX0_add_9 rfl rfl rfl ?_
    refine g_get (n := 13) (v := vr 48) (c := 0) (k := 0) ok dX0_add_10 clsX0 (by decide) q137 rfl rfl rfl ?_
    refine g_aload_n (n := 14) ok 0 dX0_add_13 rfl rfl rfl ?_
    refine g_get (n := 17) (v := vi (I 47 1)) (c := 0) (k := 1) ok dX0_add_14 clsX0 (by decide) q138 rfl rfl rfl ?_
    refine g_iload_n (n := 18) ok 1 dX0_add_17 rfl rfl rfl ?_
    refine g_iast (n := 19) (i := ix (I 47 1)) (L := 96) ok dX0_add_18 rfl rfl (vx hm) (by omega) rfl ?_
    refine g_aload_n (n := 20) ok 0 dX0_add_19 rfl rfl rfl ?_
    refine g_dup (n := 21) ok dX0_add_20 rfl rfl ?_
    refine g_get (n := 24) (v := vi ((up I 48 (ix (I 47 1)) sign) 47 1)) (c := 0) (k := 1) ok dX0_add_21 clsX0 (by decide) q138 rfl rfl rfl ?_
    refine g_iconst (n := 25) (v := 1) ok dX0_add_24 rfl rfl ?_
    refine g_iadd (n := 26) ok dX0_add_25 rfl ?_
    refine g_put (n := 29) (J := up (up I 48 (ix (I 47 1)) sign) 47 1 (((up I 48 (ix (I 47 1)) sign) 47 1) + 1)) (c := 0) (k := 1) ok dX0_add_26 clsX0 tyX0 tyX0_ok nmX0 (by decide) q138 rfl rfl (fun _ => rfl) (fun _ => rfl) (Nat.le_of_ble_eq_true rfl) (fs_0_1 _ _ _) up_ne rfl ?_
    exact g_vret ok hr dX0_add_29

noncomputable def fX0_passSign (I : HI) (sign : Int32) : Int32 × HI :=
  if fX0_signAt I (I 47 4) = sign then (1, (up I 47 4 ((I 47 4) + 1))) else (0, I)
theorem knX0_passSign : Kn yX0_passSign cX0_passSign 2 (some .boolean) 1 := ⟨q228, q7, ⟨by decide, by decide⟩, by decide +kernel⟩
set_option maxHeartbeats 400000 in
set_option maxRecDepth 100000 in
theorem kX0_passSign (I : HI) (sign : Int32) (hm : vp_in (I 47 1) 97) : Cx yX0_passSign cX0_passSign 2 (some .boolean) 1 21 [vr 47, vi sign] I ((some (vi (((fX0_passSign I sign).1))), (fX0_passSign I sign).2)) := by
  refine Cx.mk (lv := [(0, vr 47), (1, vi sign)]) (by decide) (Nat.le_of_ble_eq_true rfl) rfl (fun E ok hr => ?_)
  rw [fX0_passSign]
  refine g_aload_n (n := 1) ok 0 dX0_passSign_0 rfl rfl rfl ?_
  refine g_aload_n (n := 2) ok 0 dX0_passSign_1 rfl rfl rfl ?_
  refine g_get (n := 5) (v := vi (I 47 4)) (c := 0) (k := 4) ok dX0_passSign_2 clsX0 (by decide) q142 rfl rfl rfl ?_
  refine g_callV (n := 8) (rest := []) (av := [vi (I 47 4)]) (j := 47) ok (kX0_signAt I (I 47 4) (by first | with_reducible assumption | omega)) knX0_signAt q216 q218 qs3 clsX0 rfl dX0_passSign_5 rfl rfl (Nat.le_of_ble_eq_true rfl) (by decide) (by decide) rfl ?_
  refine g_iload_n (n := 9) ok 1 dX0_passSign_8 rfl rfl rfl ?_
  refine g_icmp_eq (n := 12) (tgt := 14) ok dX0_passSign_9 (by decide) rfl (fun c1 => ?_) (fun c1 => ?_)
  · rw [if_pos c1]
    refine g_aload_n (n := 15) ok 0 dX0_passSign_14 rfl rfl rfl ?_
    refine g_dup (n := 16) ok dX0_passSign_15 rfl rfl ?_
    refine g_get (n := 19) (v := vi (I 47 4)) (c := 0) (k := 4) ok dX0_passSign_16 clsX0 (by decide) q142 rfl rfl rfl ?_
    refine g_iconst (n := 20) (v := 1) ok dX0_passSign_19 rfl rfl ?_
    refine g_iadd (n := 21) ok dX0_passSign_20 rfl ?_
    refine g_put (n := 24) (J := up I 47 4 ((I 47 4) + 1)) (c := 0) (k := 4) ok dX0_passSign_21 clsX0 tyX0 tyX0_ok nmX0 (by decide) q142 rfl rfl (fun _ => rfl) (fun _ => rfl) (Nat.le_of_ble_eq_true rfl) (fs_0_4 _ _ _) up_ne rfl ?_
    refine g_iconst (n := 25) (v := 1) ok dX0_passSign_24 rfl rfl ?_
    exact g_zret (x := 1) ok hr dX0_passSign_25 (by decide)
  · rw [if_neg c1]
    refine g_iconst (n := 13) (v := 0) ok dX0_passSign_12 rfl rfl ?_
    exact g_zret (x := 0) ok hr dX0_passSign_13 (by decide)
theorem passSign_eq {I : HI} {sign : Int32} {a b : Nat} (h : ¬ (a = 47 ∧ b = 4)) : (fX0_passSign I sign).2 a b = I a b := by
  unfold fX0_passSign
  split
  · show up I 47 4 _ a b = I a b
    unfold up
    split
    · rw [if_neg (fun e => h ⟨by assumption, e⟩)]
    · rfl
  · rfl
theorem passSign_hm {I : HI} {sign : Int32} (h : vp_in (I 47 1) 97) : vp_in ((fX0_passSign I sign).2 47 1) 97 := by rw [passSign_eq (by omega)]; exact h

noncomputable def fX0_passDigits_x2 (least : Int32) (x2_3 : Nat) (J2 : HI) : Int32 × HI :=
  if nI x2_3 < least then (0, J2) else (1, J2)
noncomputable def fX0_passDigits_b2 (most : Nat) (x2_3 : Nat) (J2 : HI) : (Nat × HI) ⊕ (Nat × HI) :=
  if nI most ≤ nI x2_3 then Sum.inl (x2_3, J2) else (if fX5_within (fX0_signAt J2 (J2 47 4)) 48 57 = 0 then Sum.inl (x2_3, J2) else Sum.inr (x2_3 + 1, (up J2 47 4 ((J2 47 4) + 1))))
noncomputable def fX0_passDigits (I : HI) (least : Int32) (most : Nat) : Int32 × HI :=
  (fun (s : Nat × HI) => fX0_passDigits_x2 least s.1 s.2) (wh (most + 1) (fun (s : Nat × HI) => fX0_passDigits_b2 most s.1 s.2) (0, I))
theorem knX0_passDigits : Kn yX0_passDigits cX0_passDigits 4 (some .boolean) 2 := ⟨q223, q7, ⟨by decide, by decide⟩, by decide +kernel⟩
set_option maxHeartbeats 400000 in
set_option maxRecDepth 100000 in
theorem kX0_passDigits (I : HI) (least : Int32) (most : Nat) (hm : vp_in (I 47 1) 97) (h3 : most ≤ 9) : Cx yX0_passDigits cX0_passDigits 4 (some .boolean) 1 22 [vr 47, vi least, vi (nI most)] I ((some (vi (((fX0_passDigits I least most).1))), (fX0_passDigits I least most).2)) := by
  refine Cx.mk (lv := [(0, vr 47), (1, vi least), (2, vi (nI most))]) (by decide) (Nat.le_of_ble_eq_true rfl) rfl (fun E ok hr => ?_)
  rw [fX0_passDigits]
  refine g_iconst (n := 1) (v := 0) ok dX0_passDigits_0 rfl rfl ?_
  refine g_istore_n (n := 2) (lv' := [(3, vi 0), (0, vr 47), (1, vi least), (2, vi (nI most))]) ok dX0_passDigits_1 rfl (by decide) rfl rfl ?_
  have X2 : ∀ (x2_3 : Nat) (J2 : HI) (hx : x2_3 ≤ most) (hm2 : vp_in (J2 47 1) 97), G E 4 ((some (vi (((fX0_passDigits_x2 least x2_3 J2).1))), (fX0_passDigits_x2 least x2_3 J2).2)) J2 41 [(3, vi (nI x2_3)), (1, vi least)] [] := by
    intro x2_3 J2 hx hm2
    rw [fX0_passDigits_x2]
    refine g_iload_n (n := 42) ok 0 dX0_passDigits_41 rfl rfl rfl ?_
    refine g_iload_n (n := 43) ok 1 dX0_passDigits_42 rfl rfl rfl ?_
    refine g_icmp_lt (n := 46) (tgt := 50) ok dX0_passDigits_43 (by decide) rfl (fun c1 => ?_) (fun c1 => ?_)
    · rw [if_pos c1]
      refine g_iconst (n := 51) (v := 0) ok dX0_passDigits_50 rfl rfl ?_
      exact g_zret (x := 0) ok hr dX0_passDigits_51 (by decide)
    · rw [if_neg c1]
      refine g_iconst (n := 47) (v := 1) ok dX0_passDigits_46 rfl rfl ?_
      refine g_goto (tgt := 51) ok dX0_passDigits_47 (by decide) ?_
      exact g_zret (x := 1) ok hr dX0_passDigits_51 (by decide)
  have L2 : ∀ (n2 : Nat) (x2_3 : Nat) (J2 : HI) (hx : x2_3 ≤ most) (hm2 : vp_in (J2 47 1) 97) (hm : most - x2_3 < n2), G E 4 ((some (vi ((((fun (s : Nat × HI) => fX0_passDigits_x2 least s.1 s.2) (wh n2 (fun (s : Nat × HI) => fX0_passDigits_b2 most s.1 s.2) (x2_3, J2))).1))), ((fun (s : Nat × HI) => fX0_passDigits_x2 least s.1 s.2) (wh n2 (fun (s : Nat × HI) => fX0_passDigits_b2 most s.1 s.2) (x2_3, J2))).2)) J2 2 [(3, vi (nI x2_3)), (0, vr 47), (1, vi least), (2, vi (nI most))] [] := by
    intro n2
    induction n2 with
    | zero =>
      intro x2_3 J2 hx hm2 hm
      exact absurd hm (Nat.not_lt_zero _)
    | succ n2 ih =>
      intro x2_3 J2 hx hm2 hm
      rw [wh_s]
      show G E 4 ((some (vi ((((fun (s : Nat × HI) => fX0_passDigits_x2 least s.1 s.2) (Sum.elim id (fun (s : Nat × HI) => wh n2 (fun (s : Nat × HI) => fX0_passDigits_b2 most s.1 s.2) s) (fX0_passDigits_b2 most x2_3 J2))).1))), ((fun (s : Nat × HI) => fX0_passDigits_x2 least s.1 s.2) (Sum.elim id (fun (s : Nat × HI) => wh n2 (fun (s : Nat × HI) => fX0_passDigits_b2 most s.1 s.2) s) (fX0_passDigits_b2 most x2_3 J2))).2)) _ _ _ _
      rw [fX0_passDigits_b2]
      refine g_iload_n (n := 3) ok 0 dX0_passDigits_2 rfl rfl rfl ?_
      refine g_iload_n (n := 4) ok 3 dX0_passDigits_3 rfl rfl rfl ?_
      refine g_icmp_ge (n := 7) (tgt := 41) ok dX0_passDigits_4 (by decide) rfl (fun c2 => ?_) (fun c2 => ?_)
      · rw [if_pos c2]
        refine g_sub [0, 2] rfl ?_
        exact X2 x2_3 J2 hx hm2
      · rw [if_neg c2]
        have hlt : x2_3 < most := lt_of_nnle c2 (by omega)
        refine g_aload_n (n := 8) ok 1 dX0_passDigits_7 rfl rfl rfl ?_
        refine g_aload_n (n := 9) ok 1 dX0_passDigits_8 rfl rfl rfl ?_
        refine g_get (n := 12) (v := vi (J2 47 4)) (c := 0) (k := 4) ok dX0_passDigits_9 clsX0 (by decide) q142 rfl rfl rfl ?_
        refine g_callV (n := 15) (rest := []) (av := [vi (J2 47 4)]) (j := 47) ok (kX0_signAt J2 (J2 47 4) (by first | with_reducible assumption | omega)) knX0_signAt q216 q218 qs3 clsX0 rfl dX0_passDigits_12 rfl rfl (Nat.le_of_ble_eq_true rfl) (by decide) (by decide) rfl ?_
        refine g_bipush (n := 17) (v := 48) ok dX0_passDigits_15 rfl rfl ?_
        refine g_bipush (n := 19) (v := 57) ok dX0_passDigits_17 rfl rfl ?_
        refine g_callSN (n := 22) (rest := []) (av := [vi (fX0_signAt J2 (J2 47 4)), vi 48, vi 57]) ok (kX5_within J2 (fX0_signAt J2 (J2 47 4)) 48 57) knX5_within q224 q194 dX0_passDigits_19 rfl rfl (Nat.le_of_ble_eq_true rfl) (by decide) (by decide) rfl ?_
        refine g_if_eq (n := 25) (tgt := 41) ok dX0_passDigits_22 (by decide) rfl (fun c3 => ?_) (fun c3 => ?_)
        · rw [if_pos c3]
          refine g_sub [0, 2] rfl ?_
          exact X2 x2_3 J2 hx hm2
        · rw [if_neg c3]
          have ha4 : vp_in (fX0_signAt J2 (J2 47 4)) 58 := within_in2 (a := 48) (b := 57) c3 (by omega) (by omega)
          have ha4b := vb ha4
          have hx5 := within_ge (a := 48) (b := 57) c3 (by omega) (by omega)
          refine g_aload_n (n := 26) ok 1 dX0_passDigits_25 rfl rfl rfl ?_
          refine g_dup (n := 27) ok dX0_passDigits_26 rfl rfl ?_
          refine g_get (n := 30) (v := vi (J2 47 4)) (c := 0) (k := 4) ok dX0_passDigits_27 clsX0 (by decide) q142 rfl rfl rfl ?_
          refine g_iconst (n := 31) (v := 1) ok dX0_passDigits_30 rfl rfl ?_
          refine g_iadd (n := 32) ok dX0_passDigits_31 rfl ?_
          refine g_put (n := 35) (J := up J2 47 4 ((J2 47 4) + 1)) (c := 0) (k := 4) ok dX0_passDigits_32 clsX0 tyX0 tyX0_ok nmX0 (by decide) q142 rfl rfl (fun _ => rfl) (fun _ => rfl) (Nat.le_of_ble_eq_true rfl) (fs_0_4 _ _ _) up_ne rfl ?_
          refine g_iinc (n := 38) (v := nI (x2_3 + 1)) (lv' := [(3, vi (nI (x2_3 + 1))), (0, vr 47), (1, vi least), (2, vi (nI most))]) ok 0 dX0_passDigits_35 rfl (iinc_n (a := x2_3) rfl) (by decide) rfl rfl ?_
          refine g_goto (tgt := 2) ok dX0_passDigits_38 (by decide) ?_
          exact ih (x2_3 + 1) _ (by omega) (by rw [up_k (by omega)]; exact hm2) (by omega)
  exact L2 (most + 1) 0 _ (by omega) hm (by omega)
theorem passDigits_eq {I : HI} {least : Int32} {most a b : Nat} (h : ¬ (a = 47 ∧ b = 4)) : (fX0_passDigits I least most).2 a b = I a b := by
  have h2 := wh_inv (fun s : Nat × HI => s.2 a b = I a b) (fun (s : Nat × HI) => fX0_passDigits_b2 most s.1 s.2) (fun s t hs ht => by
    try dsimp only at ht
    unfold fX0_passDigits_b2 at ht
    split at ht
    · cases ht; exact hs
    · split at ht
      · cases ht; exact hs
      · cases ht) (fun s t hs ht => by
    try dsimp only at ht
    unfold fX0_passDigits_b2 at ht
    split at ht
    · cases ht
    · split at ht
      · cases ht
      · cases ht
        exact (up_o h).trans hs) (most + 1) (0, I) rfl
  unfold fX0_passDigits
  dsimp only
  unfold fX0_passDigits_x2
  split <;> exact h2
theorem passDigits_hm {I : HI} {least : Int32} {most : Nat} (h9 : most ≤ 9) (h : vp_in (I 47 1) 97) : vp_in ((fX0_passDigits I least most).2 47 1) 97 := by rw [passDigits_eq (by omega)]; exact h

noncomputable def fX0_passPlain (I : HI) (digits : Nat) : Int32 × HI :=
  if (fX0_passDigits (up I 47 4 ((I 47 4) + 1)) (nI digits) digits).1 = 0 then (0, ((fX0_passDigits (up I 47 4 ((I 47 4) + 1)) (nI digits) digits).2)) else (if (fX0_passSign ((fX0_passDigits (up I 47 4 ((I 47 4) + 1)) (nI digits) digits).2) 59).1 = 0 then (0, ((fX0_passSign ((fX0_passDigits (up I 47 4 ((I 47 4) + 1)) (nI digits) digits).2) 59).2)) else (1, ((fX0_passSign ((fX0_passDigits (up I 47 4 ((I 47 4) + 1)) (nI digits) digits).2) 59).2)))
theorem zX0_passPlain (I : HI) (digits : Nat) : (fX0_passPlain I digits).1 = 0 ∨ (fX0_passPlain I digits).1 = 1 := by
  unfold fX0_passPlain
  repeat' (first | (split) | exact Or.inl rfl | exact Or.inr rfl)
theorem knX0_passPlain : Kn yX0_passPlain cX0_passPlain 2 (some .boolean) 1 := ⟨q232, q7, ⟨by decide, by decide⟩, by decide +kernel⟩
set_option maxHeartbeats 400000 in
set_option maxRecDepth 100000 in
theorem kX0_passPlain (I : HI) (digits : Nat) (hm : vp_in (I 47 1) 97) (h3 : digits ≤ 9) : Cx yX0_passPlain cX0_passPlain 2 (some .boolean) 2 45 [vr 47, vi (nI digits)] I ((some (vi (((fX0_passPlain I digits).1))), (fX0_passPlain I digits).2)) := by
  refine Cx.mk (lv := [(0, vr 47), (1, vi (nI digits))]) (by decide) (Nat.le_of_ble_eq_true rfl) rfl (fun E ok hr => ?_)
  rw [fX0_passPlain]
  refine g_aload_n (n := 1) ok 0 dX0_passPlain_0 rfl rfl rfl ?_
  refine g_dup (n := 2) ok dX0_passPlain_1 rfl rfl ?_
  refine g_get (n := 5) (v := vi (I 47 4)) (c := 0) (k := 4) ok dX0_passPlain_2 clsX0 (by decide) q142 rfl rfl rfl ?_
  refine g_iconst (n := 6) (v := 1) ok dX0_passPlain_5 rfl rfl ?_
  refine g_iadd (n := 7) ok dX0_passPlain_6 rfl ?_
  refine g_put (n := 10) (J := up I 47 4 ((I 47 4) + 1)) (c := 0) (k := 4) ok dX0_passPlain_7 clsX0 tyX0 tyX0_ok nmX0 (by decide) q142 rfl rfl (fun _ => rfl) (fun _ => rfl) (Nat.le_of_ble_eq_true rfl) (fs_0_4 _ _ _) up_ne rfl ?_
  have hmP : vp_in ((up I 47 4 ((I 47 4) + 1)) 47 1) 97 := by rw [up_k (by omega)]; with_reducible assumption
  refine g_aload_n (n := 11) ok 0 dX0_passPlain_10 rfl rfl rfl ?_
  refine g_iload_n (n := 12) ok 1 dX0_passPlain_11 rfl rfl rfl ?_
  refine g_iload_n (n := 13) ok 1 dX0_passPlain_12 rfl rfl rfl ?_
  refine g_callV (n := 16) (rest := []) (av := [vi (nI digits), vi (nI digits)]) (j := 47) ok (kX0_passDigits (up I 47 4 ((I 47 4) + 1)) (nI digits) digits (by first | with_reducible assumption | omega) (by first | with_reducible assumption | omega)) knX0_passDigits q220 q222 qs4 clsX0 rfl dX0_passPlain_13 rfl rfl (Nat.le_of_ble_eq_true rfl) (by decide) (by decide) rfl ?_
  have hp1 : vp_in (((fX0_passDigits (up I 47 4 ((I 47 4) + 1)) (nI digits) digits).2) 47 1) 97 := passDigits_hm (by omega) (by with_reducible assumption)
  refine g_if_eq (n := 19) (tgt := 32) ok dX0_passPlain_16 (by decide) rfl (fun c2 => ?_) (fun c2 => ?_)
  · rw [if_pos c2]
    refine g_iconst (n := 33) (v := 0) ok dX0_passPlain_32 rfl rfl ?_
    exact g_zret (x := 0) ok hr dX0_passPlain_33 (by decide)
  · rw [if_neg c2]
    refine g_aload_n (n := 20) ok 0 dX0_passPlain_19 rfl rfl rfl ?_
    refine g_bipush (n := 22) (v := 59) ok dX0_passPlain_20 rfl rfl ?_
    refine g_callV (n := 25) (rest := []) (av := [vi 59]) (j := 47) ok (kX0_passSign ((fX0_passDigits (up I 47 4 ((I 47 4) + 1)) (nI digits) digits).2) 59 (by first | with_reducible assumption | omega)) knX0_passSign q225 q227 qs5 clsX0 rfl dX0_passPlain_22 rfl rfl (Nat.le_of_ble_eq_true rfl) (by decide) (by decide) rfl ?_
    have hp3 : vp_in (((fX0_passSign ((fX0_passDigits (up I 47 4 ((I 47 4) + 1)) (nI digits) digits).2) 59).2) 47 1) 97 := passSign_hm (by with_reducible assumption)
    refine g_if_eq (n := 28) (tgt := 32) ok dX0_passPlain_25 (by decide) rfl (fun c4 => ?_) (fun c4 => ?_)
    · rw [if_pos c4]
      refine g_iconst (n := 33) (v := 0) ok dX0_passPlain_32 rfl rfl ?_
      exact g_zret (x := 0) ok hr dX0_passPlain_33 (by decide)
    · rw [if_neg c4]
      refine g_iconst (n := 29) (v := 1) ok dX0_passPlain_28 rfl rfl ?_
      refine g_goto (tgt := 33) ok dX0_passPlain_29 (by decide) ?_
      exact g_zret (x := 1) ok hr dX0_passPlain_33 (by decide)
theorem passPlain_eq {I : HI} {digits a b : Nat} (h : ¬ (a = 47 ∧ b = 4)) : (fX0_passPlain I digits).2 a b = I a b := by
  unfold fX0_passPlain
  split
  · dsimp only
    rw [passDigits_eq h, up_o h]
  · split <;> (dsimp only; rw [passSign_eq h, passDigits_eq h, up_o h])
theorem passPlain_hm {I : HI} {digits : Nat} (h9 : digits ≤ 9) (h : vp_in (I 47 1) 97) : vp_in ((fX0_passPlain I digits).2 47 1) 97 := by rw [passPlain_eq (by omega)]; exact h

noncomputable def fX0_passStatement (I : HI) : Int32 × HI :=
  if fX0_signAt I (I 47 4) = 104 then ((fX0_passPlain I 4).1, ((fX0_passPlain I 4).2)) else (if fX0_signAt I (I 47 4) = 107 then ((fX0_passPlain I 2).1, ((fX0_passPlain I 2).2)) else (if fX0_signAt I (I 47 4) = 111 then ((fX0_passPlain I 5).1, ((fX0_passPlain I 5).2)) else (if fX0_signAt I (I 47 4) = 115 then (if (fX0_passDigits (up I 47 4 ((I 47 4) + 1)) 1 1).1 = 0 then (0, ((fX0_passDigits (up I 47 4 ((I 47 4) + 1)) 1 1).2)) else (if (fX0_passSign ((fX0_passDigits (up I 47 4 ((I 47 4) + 1)) 1 1).2) 61).1 = 0 then (0, ((fX0_passSign ((fX0_passDigits (up I 47 4 ((I 47 4) + 1)) 1 1).2) 61).2)) else (if (fX0_passDigits ((fX0_passSign ((fX0_passDigits (up I 47 4 ((I 47 4) + 1)) 1 1).2) 61).2) 1 3).1 = 0 then (0, ((fX0_passDigits ((fX0_passSign ((fX0_passDigits (up I 47 4 ((I 47 4) + 1)) 1 1).2) 61).2) 1 3).2)) else (if (fX0_passSign ((fX0_passDigits ((fX0_passSign ((fX0_passDigits (up I 47 4 ((I 47 4) + 1)) 1 1).2) 61).2) 1 3).2) 59).1 = 0 then (0, ((fX0_passSign ((fX0_passDigits ((fX0_passSign ((fX0_passDigits (up I 47 4 ((I 47 4) + 1)) 1 1).2) 61).2) 1 3).2) 59).2)) else (1, ((fX0_passSign ((fX0_passDigits ((fX0_passSign ((fX0_passDigits (up I 47 4 ((I 47 4) + 1)) 1 1).2) 61).2) 1 3).2) 59).2)))))) else (if fX0_signAt I (I 47 4) = 116 then ((fX0_passPlain I 3).1, ((fX0_passPlain I 3).2)) else (if fX0_signAt I (I 47 4) = 119 then ((fX0_passPlain I 0).1, ((fX0_passPlain I 0).2)) else (0, I))))))
theorem knX0_passStatement : Kn yX0_passStatement cX0_passStatement 1 (some .boolean) 0 := ⟨q215, q7, ⟨by decide, by decide⟩, by decide +kernel⟩
set_option maxHeartbeats 400000 in
set_option maxRecDepth 100000 in
theorem kX0_passStatement (I : HI) (hm : vp_in (I 47 1) 97) : Cx yX0_passStatement cX0_passStatement 1 (some .boolean) 3 66 [vr 47] I ((some (vi (((fX0_passStatement I).1))), (fX0_passStatement I).2)) := by
  refine Cx.mk (lv := [(0, vr 47)]) (by decide) (Nat.le_of_ble_eq_true rfl) rfl (fun E ok hr => ?_)
  rw [fX0_passStatement]
  refine g_aload_n (n := 1) ok 0 dX0_passStatement_0 rfl rfl rfl ?_
  refine g_aload_n (n := 2) ok 0 dX0_passStatement_1 rfl rfl rfl ?_
  refine g_get (n := 5) (v := vi (I 47 4)) (c := 0) (k := 4) ok dX0_passStatement_2 clsX0 (by decide) q142 rfl rfl rfl ?_
  refine g_callV (n := 8) (rest := []) (av := [vi (I 47 4)]) (j := 47) ok (kX0_signAt I (I 47 4) (by first | with_reducible assumption | omega)) knX0_signAt q216 q218 qs3 clsX0 rfl dX0_passStatement_5 rfl rfl (Nat.le_of_ble_eq_true rfl) (by decide) (by decide) rfl ?_
  by_cases c1 : fX0_signAt I (I 47 4) = 104
  · rw [if_pos c1]
    refine g_tabIn (off := 138) (tgt := 146) ok dX0_passStatement_8 (by rw [c1]; decide) (by rw [c1]; decide) (by rw [c1]; rfl) (by decide) ?_
    refine g_aload_n (n := 147) ok 0 dX0_passStatement_146 rfl rfl rfl ?_
    refine g_iconst (n := 148) (v := 4) ok dX0_passStatement_147 rfl rfl ?_
    refine g_callV (n := 151) (rest := []) (av := [vi (nI 4)]) (j := 47) ok (kX0_passPlain I 4 (by first | with_reducible assumption | omega) (by first | with_reducible assumption | omega)) knX0_passPlain q229 q231 qs6 clsX0 rfl dX0_passStatement_148 rfl rfl (Nat.le_of_ble_eq_true rfl) (by decide) (by decide) rfl ?_
    have hp2 : vp_in (((fX0_passPlain I 4).2) 47 1) 97 := passPlain_hm (by omega) (by with_reducible assumption)
    exact g_zret (x := (fX0_passPlain I 4).1) ok hr dX0_passStatement_151 (by first | exact zX0_passPlain .. | exact zX0_passPlain)
  · rw [if_neg c1]
    by_cases c3 : fX0_signAt I (I 47 4) = 107
    · rw [if_pos c3]
      refine g_tabIn (off := 132) (tgt := 140) ok dX0_passStatement_8 (by rw [c3]; decide) (by rw [c3]; decide) (by rw [c3]; rfl) (by decide) ?_
      refine g_aload_n (n := 141) ok 0 dX0_passStatement_140 rfl rfl rfl ?_
      refine g_iconst (n := 142) (v := 2) ok dX0_passStatement_141 rfl rfl ?_
      refine g_callV (n := 145) (rest := []) (av := [vi (nI 2)]) (j := 47) ok (kX0_passPlain I 2 (by first | with_reducible assumption | omega) (by first | with_reducible assumption | omega)) knX0_passPlain q229 q231 qs6 clsX0 rfl dX0_passStatement_142 rfl rfl (Nat.le_of_ble_eq_true rfl) (by decide) (by decide) rfl ?_
      have hp4 : vp_in (((fX0_passPlain I 2).2) 47 1) 97 := passPlain_hm (by omega) (by with_reducible assumption)
      exact g_zret (x := (fX0_passPlain I 2).1) ok hr dX0_passStatement_145 (by first | exact zX0_passPlain .. | exact zX0_passPlain)
    · rw [if_neg c3]
      by_cases c5 : fX0_signAt I (I 47 4) = 111
      · rw [if_pos c5]
        refine g_tabIn (off := 144) (tgt := 152) ok dX0_passStatement_8 (by rw [c5]; decide) (by rw [c5]; decide) (by rw [c5]; rfl) (by decide) ?_
        refine g_aload_n (n := 153) ok 0 dX0_passStatement_152 rfl rfl rfl ?_
        refine g_iconst (n := 154) (v := 5) ok dX0_passStatement_153 rfl rfl ?_
        refine g_callV (n := 157) (rest := []) (av := [vi (nI 5)]) (j := 47) ok (kX0_passPlain I 5 (by first | with_reducible assumption | omega) (by first | with_reducible assumption | omega)) knX0_passPlain q229 q231 qs6 clsX0 rfl dX0_passStatement_154 rfl rfl (Nat.le_of_ble_eq_true rfl) (by decide) (by decide) rfl ?_
        have hp6 : vp_in (((fX0_passPlain I 5).2) 47 1) 97 := passPlain_hm (by omega) (by with_reducible assumption)
        exact g_zret (x := (fX0_passPlain I 5).1) ok hr dX0_passStatement_157 (by first | exact zX0_passPlain .. | exact zX0_passPlain)
      · rw [if_neg c5]
        by_cases c7 : fX0_signAt I (I 47 4) = 115
        · rw [if_pos c7]
          refine g_tabIn (off := 80) (tgt := 88) ok dX0_passStatement_8 (by rw [c7]; decide) (by rw [c7]; decide) (by rw [c7]; rfl) (by decide) ?_
          refine g_aload_n (n := 89) ok 0 dX0_passStatement_88 rfl rfl rfl ?_
          refine g_dup (n := 90) ok dX0_passStatement_89 rfl rfl ?_
          refine g_get (n := 93) (v := vi (I 47 4)) (c := 0) (k := 4) ok dX0_passStatement_90 clsX0 (by decide) q142 rfl rfl rfl ?_
          refine g_iconst (n := 94) (v := 1) ok dX0_passStatement_93 rfl rfl ?_
          refine g_iadd (n := 95) ok dX0_passStatement_94 rfl ?_
          refine g_put (n := 98) (J := up I 47 4 ((I 47 4) + 1)) (c := 0) (k := 4) ok dX0_passStatement_95 clsX0 tyX0 tyX0_ok nmX0 (by decide) q142 rfl rfl (fun _ => rfl) (fun _ => rfl) (Nat.le_of_ble_eq_true rfl) (fs_0_4 _ _ _) up_ne rfl ?_
          have hmP : vp_in ((up I 47 4 ((I 47 4) + 1)) 47 1) 97 := by rw [up_k (by omega)]; with_reducible assumption
          refine g_aload_n (n := 99) ok 0 dX0_passStatement_98 rfl rfl rfl ?_
          refine g_iconst (n := 100) (v := 1) ok dX0_passStatement_99 rfl rfl ?_
          refine g_iconst (n := 101) (v := 1) ok dX0_passStatement_100 rfl rfl ?_
          refine g_callV (n := 104) (rest := []) (av := [vi 1, vi (nI 1)]) (j := 47) ok (kX0_passDigits (up I 47 4 ((I 47 4) + 1)) 1 1 (by first | with_reducible assumption | omega) (by first | with_reducible assumption | omega)) knX0_passDigits q220 q222 qs4 clsX0 rfl dX0_passStatement_101 rfl rfl (Nat.le_of_ble_eq_true rfl) (by decide) (by decide) rfl ?_
          have hp8 : vp_in (((fX0_passDigits (up I 47 4 ((I 47 4) + 1)) 1 1).2) 47 1) 97 := passDigits_hm (by omega) (by with_reducible assumption)
          refine g_if_eq (n := 107) (tgt := 138) ok dX0_passStatement_104 (by decide) rfl (fun c9 => ?_) (fun c9 => ?_)
          · rw [if_pos c9]
            refine g_iconst (n := 139) (v := 0) ok dX0_passStatement_138 rfl rfl ?_
            exact g_zret (x := 0) ok hr dX0_passStatement_139 (by decide)
          · rw [if_neg c9]
            refine g_aload_n (n := 108) ok 0 dX0_passStatement_107 rfl rfl rfl ?_
            refine g_bipush (n := 110) (v := 61) ok dX0_passStatement_108 rfl rfl ?_
            refine g_callV (n := 113) (rest := []) (av := [vi 61]) (j := 47) ok (kX0_passSign ((fX0_passDigits (up I 47 4 ((I 47 4) + 1)) 1 1).2) 61 (by first | with_reducible assumption | omega)) knX0_passSign q225 q227 qs5 clsX0 rfl dX0_passStatement_110 rfl rfl (Nat.le_of_ble_eq_true rfl) (by decide) (by decide) rfl ?_
            have hp10 : vp_in (((fX0_passSign ((fX0_passDigits (up I 47 4 ((I 47 4) + 1)) 1 1).2) 61).2) 47 1) 97 := passSign_hm (by with_reducible assumption)
            refine g_if_eq (n := 116) (tgt := 138) ok dX0_passStatement_113 (by decide) rfl (fun c11 => ?_) (fun c11 => ?_)
            · rw [if_pos c11]
              refine g_iconst (n := 139) (v := 0) ok dX0_passStatement_138 rfl rfl ?_
              exact g_zret (x := 0) ok hr dX0_passStatement_139 (by decide)
            · rw [if_neg c11]
              refine g_aload_n (n := 117) ok 0 dX0_passStatement_116 rfl rfl rfl ?_
              refine g_iconst (n := 118) (v := 1) ok dX0_passStatement_117 rfl rfl ?_
              refine g_iconst (n := 119) (v := 3) ok dX0_passStatement_118 rfl rfl ?_
              refine g_callV (n := 122) (rest := []) (av := [vi 1, vi (nI 3)]) (j := 47) ok (kX0_passDigits ((fX0_passSign ((fX0_passDigits (up I 47 4 ((I 47 4) + 1)) 1 1).2) 61).2) 1 3 (by first | with_reducible assumption | omega) (by first | with_reducible assumption | omega)) knX0_passDigits q220 q222 qs4 clsX0 rfl dX0_passStatement_119 rfl rfl (Nat.le_of_ble_eq_true rfl) (by decide) (by decide) rfl ?_
              have hp12 : vp_in (((fX0_passDigits ((fX0_passSign ((fX0_passDigits (up I 47 4 ((I 47 4) + 1)) 1 1).2) 61).2) 1 3).2) 47 1) 97 := passDigits_hm (by omega) (by with_reducible assumption)
              refine g_if_eq (n := 125) (tgt := 138) ok dX0_passStatement_122 (by decide) rfl (fun c13 => ?_) (fun c13 => ?_)
              · rw [if_pos c13]
                refine g_iconst (n := 139) (v := 0) ok dX0_passStatement_138 rfl rfl ?_
                exact g_zret (x := 0) ok hr dX0_passStatement_139 (by decide)
              · rw [if_neg c13]
                refine g_aload_n (n := 126) ok 0 dX0_passStatement_125 rfl rfl rfl ?_
                refine g_bipush (n := 128) (v := 59) ok dX0_passStatement_126 rfl rfl ?_
                refine g_callV (n := 131) (rest := []) (av := [vi 59]) (j := 47) ok (kX0_passSign ((fX0_passDigits ((fX0_passSign ((fX0_passDigits (up I 47 4 ((I 47 4) + 1)) 1 1).2) 61).2) 1 3).2) 59 (by first | with_reducible assumption | omega)) knX0_passSign q225 q227 qs5 clsX0 rfl dX0_passStatement_128 rfl rfl (Nat.le_of_ble_eq_true rfl) (by decide) (by decide) rfl ?_
                have hp14 : vp_in (((fX0_passSign ((fX0_passDigits ((fX0_passSign ((fX0_passDigits (up I 47 4 ((I 47 4) + 1)) 1 1).2) 61).2) 1 3).2) 59).2) 47 1) 97 := passSign_hm (by with_reducible assumption)
                refine g_if_eq (n := 134) (tgt := 138) ok dX0_passStatement_131 (by decide) rfl (fun c15 => ?_) (fun c15 => ?_)
                · rw [if_pos c15]
                  refine g_iconst (n := 139) (v := 0) ok dX0_passStatement_138 rfl rfl ?_
                  exact g_zret (x := 0) ok hr dX0_passStatement_139 (by decide)
                · rw [if_neg c15]
                  refine g_iconst (n := 135) (v := 1) ok dX0_passStatement_134 rfl rfl ?_
                  refine g_goto (tgt := 139) ok dX0_passStatement_135 (by decide) ?_
                  exact g_zret (x := 1) ok hr dX0_passStatement_139 (by decide)
        · rw [if_neg c7]
          by_cases c16 : fX0_signAt I (I 47 4) = 116
          · rw [if_pos c16]
            refine g_tabIn (off := 150) (tgt := 158) ok dX0_passStatement_8 (by rw [c16]; decide) (by rw [c16]; decide) (by rw [c16]; rfl) (by decide) ?_
            refine g_aload_n (n := 159) ok 0 dX0_passStatement_158 rfl rfl rfl ?_
            refine g_iconst (n := 160) (v := 3) ok dX0_passStatement_159 rfl rfl ?_
            refine g_callV (n := 163) (rest := []) (av := [vi (nI 3)]) (j := 47) ok (kX0_passPlain I 3 (by first | with_reducible assumption | omega) (by first | with_reducible assumption | omega)) knX0_passPlain q229 q231 qs6 clsX0 rfl dX0_passStatement_160 rfl rfl (Nat.le_of_ble_eq_true rfl) (by decide) (by decide) rfl ?_
            have hp17 : vp_in (((fX0_passPlain I 3).2) 47 1) 97 := passPlain_hm (by omega) (by with_reducible assumption)
            exact g_zret (x := (fX0_passPlain I 3).1) ok hr dX0_passStatement_163 (by first | exact zX0_passPlain .. | exact zX0_passPlain)
          · rw [if_neg c16]
            by_cases c18 : fX0_signAt I (I 47 4) = 119
            · rw [if_pos c18]
              refine g_tabIn (off := 156) (tgt := 164) ok dX0_passStatement_8 (by rw [c18]; decide) (by rw [c18]; decide) (by rw [c18]; rfl) (by decide) ?_
              refine g_aload_n (n := 165) ok 0 dX0_passStatement_164 rfl rfl rfl ?_
              refine g_iconst (n := 166) (v := 0) ok dX0_passStatement_165 rfl rfl ?_
              refine g_callV (n := 169) (rest := []) (av := [vi (nI 0)]) (j := 47) ok (kX0_passPlain I 0 (by first | with_reducible assumption | omega) (by first | with_reducible assumption | omega)) knX0_passPlain q229 q231 qs6 clsX0 rfl dX0_passStatement_166 rfl rfl (Nat.le_of_ble_eq_true rfl) (by decide) (by decide) rfl ?_
              have hp19 : vp_in (((fX0_passPlain I 0).2) 47 1) 97 := passPlain_hm (by omega) (by with_reducible assumption)
              exact g_zret (x := (fX0_passPlain I 0).1) ok hr dX0_passStatement_169 (by first | exact zX0_passPlain .. | exact zX0_passPlain)
            · rw [if_neg c18]
              refine g_tabDef (tgt := 170) ok dX0_passStatement_8 (by have h0 : (fX0_signAt I (I 47 4)).toInt ≠ 104 := ne_toInt c1; have h1 : (fX0_signAt I (I 47 4)).toInt ≠ 107 := ne_toInt c3; have h2 : (fX0_signAt I (I 47 4)).toInt ≠ 111 := ne_toInt c5; have h3 : (fX0_signAt I (I 47 4)).toInt ≠ 115 := ne_toInt c7; have h4 : (fX0_signAt I (I 47 4)).toInt ≠ 116 := ne_toInt c16; have h5 : (fX0_signAt I (I 47 4)).toInt ≠ 119 := ne_toInt c18; rcases (show (fX0_signAt I (I 47 4)).toInt < 104 ∨ 119 < (fX0_signAt I (I 47 4)).toInt ∨ (fX0_signAt I (I 47 4)).toInt = 105 ∨ (fX0_signAt I (I 47 4)).toInt = 106 ∨ (fX0_signAt I (I 47 4)).toInt = 108 ∨ (fX0_signAt I (I 47 4)).toInt = 109 ∨ (fX0_signAt I (I 47 4)).toInt = 110 ∨ (fX0_signAt I (I 47 4)).toInt = 112 ∨ (fX0_signAt I (I 47 4)).toInt = 113 ∨ (fX0_signAt I (I 47 4)).toInt = 114 ∨ (fX0_signAt I (I 47 4)).toInt = 117 ∨ (fX0_signAt I (I 47 4)).toInt = 118 by omega) with h | h | h | h | h | h | h | h | h | h | h | h; exact Or.inl h; exact Or.inr (Or.inl h); all_goals exact Or.inr (Or.inr ⟨by rw [h]; rfl, by omega, by omega⟩)) (by decide) ?_
              refine g_iconst (n := 171) (v := 0) ok dX0_passStatement_170 rfl rfl ?_
              exact g_zret (x := 0) ok hr dX0_passStatement_171 (by decide)
theorem passStatement_eq {I : HI} {a b : Nat} (h : ¬ (a = 47 ∧ b = 4)) : (fX0_passStatement I).2 a b = I a b := by
  unfold fX0_passStatement
  repeat' split
  all_goals dsimp only
  all_goals first | rfl | rw [passPlain_eq h] | rw [passDigits_eq h, up_o h] | rw [passSign_eq h, passDigits_eq h, up_o h] | rw [passDigits_eq h, passSign_eq h, passDigits_eq h, up_o h] | rw [passSign_eq h, passDigits_eq h, passSign_eq h, passDigits_eq h, up_o h]
theorem passStatement_hm {I : HI} (h : vp_in (I 47 1) 97) : vp_in ((fX0_passStatement I).2 47 1) 97 := by rw [passStatement_eq (by omega)]; exact h

noncomputable def fX0_passAll_x12 (J12 : HI) : Int32 × HI :=
  (0, J12)
noncomputable def fX0_passAll_c60 (K60 : HI) : (Int32 × HI) ⊕ (HI) :=
  Sum.inr K60
noncomputable def fX0_passAll_b12 (i12 : Nat) (J12 : HI) : (Int32 × HI) ⊕ (HI) :=
  if (fX0_passStatement (up J12 49 i12 (J12 47 4))).1 = 0 then Sum.inl (0, ((fX0_passStatement (up J12 49 i12 (J12 47 4))).2)) else (if (up ((fX0_passStatement (up J12 49 i12 (J12 47 4))).2) 47 3 ((((fX0_passStatement (up J12 49 i12 (J12 47 4))).2) 47 3) + 1)) 47 4 < (up ((fX0_passStatement (up J12 49 i12 (J12 47 4))).2) 47 3 ((((fX0_passStatement (up J12 49 i12 (J12 47 4))).2) 47 3) + 1)) 47 1 then fX0_passAll_c60 (up ((fX0_passStatement (up J12 49 i12 (J12 47 4))).2) 47 3 ((((fX0_passStatement (up J12 49 i12 (J12 47 4))).2) 47 3) + 1)) else Sum.inl (1, (up ((fX0_passStatement (up J12 49 i12 (J12 47 4))).2) 47 3 ((((fX0_passStatement (up J12 49 i12 (J12 47 4))).2) 47 3) + 1))))
noncomputable def fX0_passAll_c10 (K10 : HI) : Int32 × HI :=
  foE 96 0 (fun (i : Nat) (s : HI) => fX0_passAll_b12 i s) (fun (s : HI) => fX0_passAll_x12 s) K10
noncomputable def fX0_passAll (I : HI) : Int32 × HI :=
  fX0_passAll_c10 (up (up I 47 4 0) 47 3 0)
theorem knX0_passAll : Kn yX0_passAll cX0_passAll 2 (some .boolean) 0 := ⟨q211, q7, ⟨by decide, by decide⟩, by decide +kernel⟩
set_option maxHeartbeats 400000 in
set_option maxRecDepth 100000 in
theorem kX0_passAll (I : HI) (hm : vp_in (I 47 1) 97) : Cx yX0_passAll cX0_passAll 2 (some .boolean) 4 86 [vr 47] I ((some (vi (((fX0_passAll I).1))), (fX0_passAll I).2)) := by
  refine Cx.mk (lv := [(0, vr 47)]) (by decide) (Nat.le_of_ble_eq_true rfl) rfl (fun E ok hr => ?_)
  rw [fX0_passAll]
  refine g_aload_n (n := 1) ok 0 dX0_passAll_0 rfl rfl rfl ?_
  refine g_iconst (n := 2) (v := 0) ok dX0_passAll_1 rfl rfl ?_
  refine g_put (n := 5) (J := up I 47 4 0) (c := 0) (k := 4) ok dX0_passAll_2 clsX0 tyX0 tyX0_ok nmX0 (by decide) q142 rfl rfl (fun _ => rfl) (fun _ => rfl) (Nat.le_of_ble_eq_true rfl) (fs_0_4 _ _ _) up_ne rfl ?_
  refine g_aload_n (n := 6) ok 0 dX0_passAll_5 rfl rfl rfl ?_
  refine g_iconst (n := 7) (v := 0) ok dX0_passAll_6 rfl rfl ?_
  refine g_put (n := 10) (J := up (up I 47 4 0) 47 3 0) (c := 0) (k := 3) ok dX0_passAll_7 clsX0 tyX0 tyX0_ok nmX0 (by decide) q141 rfl rfl (fun _ => rfl) (fun _ => rfl) (Nat.le_of_ble_eq_true rfl) (fs_0_3 _ _ _) up_ne rfl ?_
  have C10_8 : ∀ (K10 : HI) (hm2 : vp_in (K10 47 1) 97), G E 2 ((some (vi (((fX0_passAll_c10 K10).1))), (fX0_passAll_c10 K10).2)) K10 10 [(0, vr 47)] [] := by
    intro K10 hm2
    rw [fX0_passAll_c10]
    refine g_iconst (n := 11) (v := 0) ok dX0_passAll_10 rfl rfl ?_
    refine g_istore_n (n := 12) (lv' := [(1, vi 0), (0, vr 47)]) ok dX0_passAll_11 rfl (by decide) rfl rfl ?_
    have X12 : ∀ (J12 : HI) (hm3 : vp_in (J12 47 1) 97), G E 2 ((some (vi (((fX0_passAll_x12 J12).1))), (fX0_passAll_x12 J12).2)) J12 66 [] [] := by
      intro J12 hm3
      rw [fX0_passAll_x12]
      refine g_iconst (n := 67) (v := 0) ok dX0_passAll_66 rfl rfl ?_
      exact g_zret (x := 0) ok hr dX0_passAll_67 (by decide)
    have L12 : ∀ (n12 i12 : Nat) (J12 : HI) (hm3 : vp_in (J12 47 1) 97) (hi : i12 + n12 = 96), G E 2 ((some (vi (((foE n12 i12 (fun (i : Nat) (s : HI) => fX0_passAll_b12 i s) (fun (s : HI) => fX0_passAll_x12 s) J12).1))), (foE n12 i12 (fun (i : Nat) (s : HI) => fX0_passAll_b12 i s) (fun (s : HI) => fX0_passAll_x12 s) J12).2)) J12 12 [(1, vi (nI i12)), (0, vr 47)] [] := by
      intro n12
      induction n12 with
      | zero =>
        intro i12 J12 hm3 hi
        rw [foE_0]
        refine g_iload_n (n := 13) ok 0 dX0_passAll_12 rfl rfl rfl ?_
        refine g_bipush (n := 15) (v := 96) ok dX0_passAll_13 rfl rfl ?_
        refine g_icmp_ge (n := 18) (tgt := 66) ok dX0_passAll_15 (by decide) rfl (fun c => ?_) (fun c => absurd (nle (a := 96) (b := i12) rfl rfl (by omega) (by omega)) c)
        refine g_sub [] rfl ?_
        exact X12 _ hm3
      | succ n12 ih =>
        intro i12 J12 hm3 hi
        refine g_iload_n (n := 13) ok 0 dX0_passAll_12 rfl rfl rfl ?_
        refine g_bipush (n := 15) (v := 96) ok dX0_passAll_13 rfl rfl ?_
        refine g_icmp_ge (n := 18) (tgt := 66) ok dX0_passAll_15 (by decide) rfl (fun c => absurd c (nnle (a := 96) (b := i12) rfl rfl (by omega) (by omega))) (fun c => ?_)
        rw [foE_s]
        show G E 2 ((some (vi (((Sum.elim id (fun (s : HI) => foE n12 (i12 + 1) (fun (i : Nat) (s : HI) => fX0_passAll_b12 i s) (fun (s : HI) => fX0_passAll_x12 s) s) (fX0_passAll_b12 i12 J12)).1))), (Sum.elim id (fun (s : HI) => foE n12 (i12 + 1) (fun (i : Nat) (s : HI) => fX0_passAll_b12 i s) (fun (s : HI) => fX0_passAll_x12 s) s) (fX0_passAll_b12 i12 J12)).2)) _ _ _ _
        rw [fX0_passAll_b12]
        refine g_aload_n (n := 19) ok 1 dX0_passAll_18 rfl rfl rfl ?_
        refine g_get (n := 22) (v := vr 49) (c := 0) (k := 2) ok dX0_passAll_19 clsX0 (by decide) q140 rfl rfl rfl ?_
        refine g_iload_n (n := 23) ok 0 dX0_passAll_22 rfl rfl rfl ?_
        refine g_aload_n (n := 24) ok 1 dX0_passAll_23 rfl rfl rfl ?_
        refine g_get (n := 27) (v := vi (J12 47 4)) (c := 0) (k := 4) ok dX0_passAll_24 clsX0 (by decide) q142 rfl rfl rfl ?_
        refine g_iast (n := 28) (i := i12) (L := 96) ok dX0_passAll_27 rfl rfl rfl (by omega) rfl ?_
        have hm4 : vp_in ((up J12 49 i12 (J12 47 4)) 47 1) 97 := by rw [up_ne 47 (by omega)]; exact hm3
        refine g_aload_n (n := 29) ok 1 dX0_passAll_28 rfl rfl rfl ?_
        refine g_callV (n := 32) (rest := []) (av := []) (j := 47) ok (kX0_passStatement (up J12 49 i12 (J12 47 4)) (by first | with_reducible assumption | omega)) knX0_passStatement q212 q214 qs2 clsX0 rfl dX0_passAll_29 rfl rfl (Nat.le_of_ble_eq_true rfl) (by decide) (by decide) rfl ?_
        have hp2 : vp_in (((fX0_passStatement (up J12 49 i12 (J12 47 4))).2) 47 1) 97 := passStatement_hm (by with_reducible assumption)
        refine g_if_ne (n := 35) (tgt := 37) ok dX0_passAll_32 (by decide) rfl (fun c3 => ?_) (fun c3 => ?_)
        · rw [if_neg c3]
          refine g_aload_n (n := 38) ok 1 dX0_passAll_37 rfl rfl rfl ?_
          refine g_dup (n := 39) ok dX0_passAll_38 rfl rfl ?_
          refine g_get (n := 42) (v := vi (((fX0_passStatement (up J12 49 i12 (J12 47 4))).2) 47 3)) (c := 0) (k := 3) ok dX0_passAll_39 clsX0 (by decide) q141 rfl rfl rfl ?_
          refine g_iconst (n := 43) (v := 1) ok dX0_passAll_42 rfl rfl ?_
          refine g_iadd (n := 44) ok dX0_passAll_43 rfl ?_
          refine g_put (n := 47) (J := up ((fX0_passStatement (up J12 49 i12 (J12 47 4))).2) 47 3 ((((fX0_passStatement (up J12 49 i12 (J12 47 4))).2) 47 3) + 1)) (c := 0) (k := 3) ok dX0_passAll_44 clsX0 tyX0 tyX0_ok nmX0 (by decide) q141 rfl rfl (fun _ => rfl) (fun _ => rfl) (Nat.le_of_ble_eq_true rfl) (fs_0_3 _ _ _) up_ne rfl ?_
          refine g_aload_n (n := 48) ok 1 dX0_passAll_47 rfl rfl rfl ?_
          refine g_get (n := 51) (v := vi ((up ((fX0_passStatement (up J12 49 i12 (J12 47 4))).2) 47 3 ((((fX0_passStatement (up J12 49 i12 (J12 47 4))).2) 47 3) + 1)) 47 4)) (c := 0) (k := 4) ok dX0_passAll_48 clsX0 (by decide) q142 rfl rfl rfl ?_
          refine g_aload_n (n := 52) ok 1 dX0_passAll_51 rfl rfl rfl ?_
          refine g_get (n := 55) (v := vi ((up ((fX0_passStatement (up J12 49 i12 (J12 47 4))).2) 47 3 ((((fX0_passStatement (up J12 49 i12 (J12 47 4))).2) 47 3) + 1)) 47 1)) (c := 0) (k := 1) ok dX0_passAll_52 clsX0 (by decide) q138 rfl rfl rfl ?_
          refine g_icmp_lt (n := 58) (tgt := 60) ok dX0_passAll_55 (by decide) rfl (fun c4 => ?_) (fun c4 => ?_)
          · rw [if_pos c4]
            have C60_7 : ∀ (K60 : HI) (hm5 : vp_in (K60 47 1) 97), G E 2 ((some (vi (((Sum.elim id (fun (s : HI) => foE n12 (i12 + 1) (fun (i : Nat) (s : HI) => fX0_passAll_b12 i s) (fun (s : HI) => fX0_passAll_x12 s) s) (fX0_passAll_c60 K60)).1))), (Sum.elim id (fun (s : HI) => foE n12 (i12 + 1) (fun (i : Nat) (s : HI) => fX0_passAll_b12 i s) (fun (s : HI) => fX0_passAll_x12 s) s) (fX0_passAll_c60 K60)).2)) K60 60 [(1, vi (nI i12)), (0, vr 47)] [] := by
              intro K60 hm5
              rw [fX0_passAll_c60]
              refine g_iinc (n := 63) (v := nI (i12 + 1)) (lv' := [(1, vi (nI (i12 + 1))), (0, vr 47)]) ok 0 dX0_passAll_60 rfl (iinc_n (a := i12) rfl) (by decide) rfl rfl ?_
              refine g_goto (tgt := 12) ok dX0_passAll_63 (by decide) ?_
              exact ih (i12 + 1) _ hm5 (by omega)
            exact C60_7 _ (by rw [up_k (by omega)]; with_reducible assumption)
          · rw [if_neg c4]
            refine g_iconst (n := 59) (v := 1) ok dX0_passAll_58 rfl rfl ?_
            exact g_zret (x := 1) ok hr dX0_passAll_59 (by decide)
        · rw [if_pos c3]
          refine g_iconst (n := 36) (v := 0) ok dX0_passAll_35 rfl rfl ?_
          exact g_zret (x := 0) ok hr dX0_passAll_36 (by decide)
    exact L12 96 0 _ hm2 (by omega)
  exact C10_8 _ (by rw [up_k (by omega), up_k (by omega)]; exact hm)

noncomputable def fX0_numberAt_x5 (x5_3 : Int32) : Int32 :=
  x5_3
noncomputable def fX0_numberAt_b5 (I : HI) (p : Int32) (i5 : Nat) (x5_3 : Int32) : Int32 :=
  ((10 * x5_3) + (fX0_signAt I (p + (nI i5)))) - 48
noncomputable def fX0_numberAt (I : HI) (p : Int32) (digits : Nat) : Int32 :=
  fX0_numberAt_x5 (fo digits 0 (fun (i : Nat) (s : Int32) => fX0_numberAt_b5 I p i s) 0)
theorem knX0_numberAt : Kn yX0_numberAt cX0_numberAt 5 (some .int) 2 := ⟨q252, q7, ⟨by decide, by decide⟩, by decide +kernel⟩
set_option maxHeartbeats 400000 in
set_option maxRecDepth 100000 in
theorem kX0_numberAt (I : HI) (p : Int32) (digits : Nat) (hm : vp_in (I 47 1) 97) (h3 : digits ≤ 9) : Cx yX0_numberAt cX0_numberAt 5 (some .int) 1 21 [vr 47, vi p, vi (nI digits)] I ((some (vi ((fX0_numberAt I p digits))), I)) := by
  refine Cx.mk (lv := [(0, vr 47), (1, vi p), (2, vi (nI digits))]) (by decide) (Nat.le_of_ble_eq_true rfl) rfl (fun E ok hr => ?_)
  rw [fX0_numberAt]
  refine g_iconst (n := 1) (v := 0) ok dX0_numberAt_0 rfl rfl ?_
  refine g_istore_n (n := 2) (lv' := [(3, vi 0), (0, vr 47), (1, vi p), (2, vi (nI digits))]) ok dX0_numberAt_1 rfl (by decide) rfl rfl ?_
  refine g_iconst (n := 3) (v := 0) ok dX0_numberAt_2 rfl rfl ?_
  refine g_istore (n := 5) (lv' := [(4, vi 0), (3, vi 0), (0, vr 47), (1, vi p), (2, vi (nI digits))]) ok dX0_numberAt_3 (by decide) rfl rfl ?_
  have X5 : ∀ (x5_3 : Int32), G E 5 ((some (vi ((fX0_numberAt_x5 x5_3))), I)) I 34 [(3, vi x5_3)] [] := by
    intro x5_3
    rw [fX0_numberAt_x5]
    refine g_iload_n (n := 35) ok 0 dX0_numberAt_34 rfl rfl rfl ?_
    exact g_iret ok hr dX0_numberAt_35
  have L5 : ∀ (n5 i5 : Nat) (x5_3 : Int32) (hi : i5 + n5 = digits), G E 5 ((some (vi ((fX0_numberAt_x5 (fo n5 i5 (fun (i : Nat) (s : Int32) => fX0_numberAt_b5 I p i s) x5_3)))), I)) I 5 [(4, vi (nI i5)), (3, vi x5_3), (0, vr 47), (1, vi p), (2, vi (nI digits))] [] := by
    intro n5
    induction n5 with
    | zero =>
      intro i5 x5_3 hi
      rw [fo_0]
      refine g_iload (n := 7) ok 0 dX0_numberAt_5 rfl rfl ?_
      refine g_iload_n (n := 8) ok 4 dX0_numberAt_7 rfl rfl rfl ?_
      refine g_icmp_ge (n := 11) (tgt := 34) ok dX0_numberAt_8 (by decide) rfl (fun c => ?_) (fun c => absurd (nle (a := digits) (b := i5) rfl rfl (by omega) (by omega)) c)
      refine g_sub [1] rfl ?_
      exact X5 _
    | succ n5 ih =>
      intro i5 x5_3 hi
      refine g_iload (n := 7) ok 0 dX0_numberAt_5 rfl rfl ?_
      refine g_iload_n (n := 8) ok 4 dX0_numberAt_7 rfl rfl rfl ?_
      refine g_icmp_ge (n := 11) (tgt := 34) ok dX0_numberAt_8 (by decide) rfl (fun c => absurd c (nnle (a := digits) (b := i5) rfl rfl (by omega) (by omega))) (fun c => ?_)
      rw [fo_s]
      show G E 5 ((some (vi ((fX0_numberAt_x5 (fo n5 (i5 + 1) (fun (i : Nat) (s : Int32) => fX0_numberAt_b5 I p i s) (fX0_numberAt_b5 I p i5 x5_3))))), I)) _ _ _ _
      rw [fX0_numberAt_b5]
      refine g_bipush (n := 13) (v := 10) ok dX0_numberAt_11 rfl rfl ?_
      refine g_iload_n (n := 14) ok 1 dX0_numberAt_13 rfl rfl rfl ?_
      refine g_imul (n := 15) ok dX0_numberAt_14 rfl ?_
      refine g_aload_n (n := 16) ok 2 dX0_numberAt_15 rfl rfl rfl ?_
      refine g_iload_n (n := 17) ok 3 dX0_numberAt_16 rfl rfl rfl ?_
      refine g_iload (n := 19) ok 0 dX0_numberAt_17 rfl rfl ?_
      refine g_iadd (n := 20) ok dX0_numberAt_19 rfl ?_
      refine g_callV (n := 23) (rest := [vi (10 * x5_3)]) (av := [vi (p + (nI i5))]) (j := 47) ok (kX0_signAt I (p + (nI i5)) (by first | with_reducible assumption | omega)) knX0_signAt q216 q218 qs3 clsX0 rfl dX0_numberAt_20 rfl rfl (Nat.le_of_ble_eq_true rfl) (by decide) (by decide) rfl ?_
      refine g_iadd (n := 24) ok dX0_numberAt_23 rfl ?_
      refine g_bipush (n := 26) (v := 48) ok dX0_numberAt_24 rfl rfl ?_
      refine g_isub (n := 27) ok dX0_numberAt_26 rfl ?_
      refine g_istore_n (n := 28) (lv' := [(3, vi (((10 * x5_3) + (fX0_signAt I (p + (nI i5)))) - 48)), (4, vi (nI i5)), (0, vr 47), (1, vi p), (2, vi (nI digits))]) ok dX0_numberAt_27 rfl (by decide) rfl rfl ?_
      refine g_iinc (n := 31) (v := nI (i5 + 1)) (lv' := [(4, vi (nI (i5 + 1))), (3, vi (((10 * x5_3) + (fX0_signAt I (p + (nI i5)))) - 48)), (0, vr 47), (1, vi p), (2, vi (nI digits))]) ok 1 dX0_numberAt_28 rfl (iinc_n (a := i5) rfl) (by decide) rfl rfl ?_
      refine g_goto (tgt := 5) ok dX0_numberAt_31 (by decide) ?_
      exact ih (i5 + 1) (((10 * x5_3) + (fX0_signAt I (p + (nI i5)))) - 48) (by omega)
  exact L5 digits 0 0 (by omega)

noncomputable def fX0_digitAt (I : HI) (p : Int32) : Int32 :=
  (fX0_signAt I p) - 48
theorem knX0_digitAt : Kn yX0_digitAt cX0_digitAt 2 (some .int) 1 := ⟨q244, q7, ⟨by decide, by decide⟩, by decide +kernel⟩
set_option maxHeartbeats 400000 in
set_option maxRecDepth 100000 in
theorem kX0_digitAt (I : HI) (p : Int32) (hm : vp_in (I 47 1) 97) : Cx yX0_digitAt cX0_digitAt 2 (some .int) 1 21 [vr 47, vi p] I ((some (vi ((fX0_digitAt I p))), I)) := by
  refine Cx.mk (lv := [(0, vr 47), (1, vi p)]) (by decide) (Nat.le_of_ble_eq_true rfl) rfl (fun E ok hr => ?_)
  rw [fX0_digitAt]
  refine g_aload_n (n := 1) ok 0 dX0_digitAt_0 rfl rfl rfl ?_
  refine g_iload_n (n := 2) ok 1 dX0_digitAt_1 rfl rfl rfl ?_
  refine g_callV (n := 5) (rest := []) (av := [vi p]) (j := 47) ok (kX0_signAt I p (by first | with_reducible assumption | omega)) knX0_signAt q216 q218 qs3 clsX0 rfl dX0_digitAt_2 rfl rfl (Nat.le_of_ble_eq_true rfl) (by decide) (by decide) rfl ?_
  refine g_bipush (n := 7) (v := 48) ok dX0_digitAt_5 rfl rfl ?_
  refine g_isub (n := 8) ok dX0_digitAt_7 rfl ?_
  exact g_iret ok hr dX0_digitAt_8

noncomputable def fX0_settingNumber_x2 (I : HI) (start : Int32) (x2_2 : Nat) : Int32 :=
  fX0_numberAt I (start + 3) x2_2
noncomputable def fX0_settingNumber_b2 (I : HI) (start : Int32) (x2_2 : Nat) : (Nat) ⊕ (Nat) :=
  if 3 ≤ nI x2_2 then Sum.inl x2_2 else (if fX0_signAt I ((start + 3) + (nI x2_2)) = 59 then Sum.inl x2_2 else Sum.inr (x2_2 + 1))
noncomputable def fX0_settingNumber (I : HI) (start : Int32) : Int32 :=
  fX0_settingNumber_x2 I start (wh 3 (fun (s : Nat) => fX0_settingNumber_b2 I start s) 1)
theorem knX0_settingNumber : Kn yX0_settingNumber cX0_settingNumber 3 (some .int) 1 := ⟨q248, q7, ⟨by decide, by decide⟩, by decide +kernel⟩
set_option maxHeartbeats 400000 in
set_option maxRecDepth 100000 in
theorem kX0_settingNumber (I : HI) (start : Int32) (hm : vp_in (I 47 1) 97) : Cx yX0_settingNumber cX0_settingNumber 3 (some .int) 2 45 [vr 47, vi start] I ((some (vi ((fX0_settingNumber I start))), I)) := by
  refine Cx.mk (lv := [(0, vr 47), (1, vi start)]) (by decide) (Nat.le_of_ble_eq_true rfl) rfl (fun E ok hr => ?_)
  rw [fX0_settingNumber]
  refine g_iconst (n := 1) (v := 1) ok dX0_settingNumber_0 rfl rfl ?_
  refine g_istore_n (n := 2) (lv' := [(2, vi 1), (0, vr 47), (1, vi start)]) ok dX0_settingNumber_1 rfl (by decide) rfl rfl ?_
  have X2 : ∀ (x2_2 : Nat) (hx : 1 ≤ x2_2 ∧ x2_2 ≤ 3), G E 3 ((some (vi ((fX0_settingNumber_x2 I start x2_2))), I)) I 27 [(2, vi (nI x2_2)), (0, vr 47), (1, vi start)] [] := by
    intro x2_2 hx
    rw [fX0_settingNumber_x2]
    refine g_aload_n (n := 28) ok 1 dX0_settingNumber_27 rfl rfl rfl ?_
    refine g_iload_n (n := 29) ok 2 dX0_settingNumber_28 rfl rfl rfl ?_
    refine g_iconst (n := 30) (v := 3) ok dX0_settingNumber_29 rfl rfl ?_
    refine g_iadd (n := 31) ok dX0_settingNumber_30 rfl ?_
    refine g_iload_n (n := 32) ok 0 dX0_settingNumber_31 rfl rfl rfl ?_
    refine g_callV (n := 35) (rest := []) (av := [vi (start + 3), vi (nI x2_2)]) (j := 47) ok (kX0_numberAt I (start + 3) x2_2 (by first | with_reducible assumption | omega) (by first | with_reducible assumption | omega)) knX0_numberAt q249 q251 qs11 clsX0 rfl dX0_settingNumber_32 rfl rfl (Nat.le_of_ble_eq_true rfl) (by decide) (by decide) rfl ?_
    exact g_iret ok hr dX0_settingNumber_35
  have L2 : ∀ (n2 : Nat) (x2_2 : Nat) (hx : 1 ≤ x2_2 ∧ x2_2 ≤ 3) (hm : 3 - x2_2 < n2), G E 3 ((some (vi ((fX0_settingNumber_x2 I start (wh n2 (fun (s : Nat) => fX0_settingNumber_b2 I start s) x2_2)))), I)) I 2 [(2, vi (nI x2_2)), (0, vr 47), (1, vi start)] [] := by
    intro n2
    induction n2 with
    | zero =>
      intro x2_2 hx hm
      exact absurd hm (Nat.not_lt_zero _)
    | succ n2 ih =>
      intro x2_2 hx hm
      rw [wh_s]
      show G E 3 ((some (vi ((fX0_settingNumber_x2 I start (Sum.elim id (fun (s : Nat) => wh n2 (fun (s : Nat) => fX0_settingNumber_b2 I start s) s) (fX0_settingNumber_b2 I start x2_2))))), I)) _ _ _ _
      rw [fX0_settingNumber_b2]
      refine g_iload_n (n := 3) ok 0 dX0_settingNumber_2 rfl rfl rfl ?_
      refine g_iconst (n := 4) (v := 3) ok dX0_settingNumber_3 rfl rfl ?_
      refine g_icmp_ge (n := 7) (tgt := 27) ok dX0_settingNumber_4 (by decide) rfl (fun c1 => ?_) (fun c1 => ?_)
      · rw [if_pos c1]
        exact X2 x2_2 hx
      · rw [if_neg c1]
        have hlt : x2_2 < 3 := lt_of_nnle (b := 3) c1 (by omega)
        refine g_aload_n (n := 8) ok 1 dX0_settingNumber_7 rfl rfl rfl ?_
        refine g_iload_n (n := 9) ok 2 dX0_settingNumber_8 rfl rfl rfl ?_
        refine g_iconst (n := 10) (v := 3) ok dX0_settingNumber_9 rfl rfl ?_
        refine g_iadd (n := 11) ok dX0_settingNumber_10 rfl ?_
        refine g_iload_n (n := 12) ok 0 dX0_settingNumber_11 rfl rfl rfl ?_
        refine g_iadd (n := 13) ok dX0_settingNumber_12 rfl ?_
        refine g_callV (n := 16) (rest := []) (av := [vi ((start + 3) + (nI x2_2))]) (j := 47) ok (kX0_signAt I ((start + 3) + (nI x2_2)) (by first | with_reducible assumption | omega)) knX0_signAt q216 q218 qs3 clsX0 rfl dX0_settingNumber_13 rfl rfl (Nat.le_of_ble_eq_true rfl) (by decide) (by decide) rfl ?_
        refine g_bipush (n := 18) (v := 59) ok dX0_settingNumber_16 rfl rfl ?_
        refine g_icmp_eq (n := 21) (tgt := 27) ok dX0_settingNumber_18 (by decide) rfl (fun c2 => ?_) (fun c2 => ?_)
        · rw [if_pos c2]
          exact X2 x2_2 hx
        · rw [if_neg c2]
          refine g_iinc (n := 24) (v := nI (x2_2 + 1)) (lv' := [(2, vi (nI (x2_2 + 1))), (0, vr 47), (1, vi start)]) ok 0 dX0_settingNumber_21 rfl (iinc_n (a := x2_2) rfl) (by decide) rfl rfl ?_
          refine g_goto (tgt := 2) ok dX0_settingNumber_24 (by decide) ?_
          exact ih (x2_2 + 1) (by omega) (by omega)
  exact L2 3 1 (by omega) (by omega)

noncomputable def fX0_isAsItMust (I : HI) (start : Int32) (room : Int32) : Int32 :=
  if fX0_signAt I start = 104 then (if fX5_isSpot (fX0_digitAt I (start + 1)) (fX0_numberAt I (start + 2) 2) = 0 then 0 else (if 3 < fX0_digitAt I (start + 4) then 0 else 1)) else (if fX0_signAt I start = 107 then fX5_within (fX0_digitAt I (start + 1)) 0 6 else (if fX0_signAt I start = 111 then fX5_isSpot (fX0_digitAt I (start + 1)) (fX0_numberAt I (start + 2) 2) else (if fX0_signAt I start = 115 then (if fX5_within (fX0_digitAt I (start + 1)) 0 4 = 0 then 0 else (if fX5_fitsSetting I (ix (fX0_digitAt I (start + 1))) (fX0_settingNumber I start) = 0 then 0 else 1)) else (if fX0_signAt I start = 116 then (if fX5_isFoot (fX0_digitAt I (start + 1)) = 0 then 0 else (if fX5_strokeFault (fX0_digitAt I (start + 2)) (fX0_digitAt I (start + 3)) = 0 then (if room ≤ 0 then 0 else 1) else 0)) else 1))))
theorem knX0_isAsItMust : Kn yX0_isAsItMust cX0_isAsItMust 6 (some .boolean) 2 := ⟨q240, q7, ⟨by decide, by decide⟩, by decide +kernel⟩
set_option maxHeartbeats 400000 in
set_option maxRecDepth 100000 in
theorem kX0_isAsItMust (I : HI) (start : Int32) (room : Int32) (hm : vp_in (I 47 1) 97) : Cx yX0_isAsItMust cX0_isAsItMust 6 (some .boolean) 3 67 [vr 47, vi start, vi room] I ((some (vi ((fX0_isAsItMust I start room))), I)) := by
  refine Cx.mk (lv := [(0, vr 47), (1, vi start), (2, vi room)]) (by decide) (Nat.le_of_ble_eq_true rfl) rfl (fun E ok hr => ?_)
  rw [fX0_isAsItMust]
  refine g_aload_n (n := 1) ok 0 dX0_isAsItMust_0 rfl rfl rfl ?_
  refine g_iload_n (n := 2) ok 1 dX0_isAsItMust_1 rfl rfl rfl ?_
  refine g_iconst (n := 3) (v := 1) ok dX0_isAsItMust_2 rfl rfl ?_
  refine g_iadd (n := 4) ok dX0_isAsItMust_3 rfl ?_
  refine g_callV (n := 7) (rest := []) (av := [vi (start + 1)]) (j := 47) ok (kX0_digitAt I (start + 1) (by first | with_reducible assumption | omega)) knX0_digitAt q241 q243 qs9 clsX0 rfl dX0_isAsItMust_4 rfl rfl (Nat.le_of_ble_eq_true rfl) (by decide) (by decide) rfl ?_
  refine g_istore_n (n := 8) (lv' := [(3, vi (fX0_digitAt I (start + 1))), (0, vr 47), (1, vi start), (2, vi room)]) ok dX0_isAsItMust_7 rfl (by decide) rfl rfl ?_
  refine g_aload_n (n := 9) ok 1 dX0_isAsItMust_8 rfl rfl rfl ?_
  refine g_iload_n (n := 10) ok 2 dX0_isAsItMust_9 rfl rfl rfl ?_
  refine g_callV (n := 13) (rest := []) (av := [vi start]) (j := 47) ok (kX0_signAt I start (by first | with_reducible assumption | omega)) knX0_signAt q216 q218 qs3 clsX0 rfl dX0_isAsItMust_10 rfl rfl (Nat.le_of_ble_eq_true rfl) (by decide) (by decide) rfl ?_
  by_cases c1 : fX0_signAt I start = 104
  · rw [if_pos c1]
    refine g_tabIn (off := 102) (tgt := 115) ok dX0_isAsItMust_13 (by rw [c1]; decide) (by rw [c1]; decide) (by rw [c1]; rfl) (by decide) ?_
    refine g_iload_n (n := 116) ok 0 dX0_isAsItMust_115 rfl rfl rfl ?_
    refine g_aload_n (n := 117) ok 1 dX0_isAsItMust_116 rfl rfl rfl ?_
    refine g_iload_n (n := 118) ok 2 dX0_isAsItMust_117 rfl rfl rfl ?_
    refine g_iconst (n := 119) (v := 2) ok dX0_isAsItMust_118 rfl rfl ?_
    refine g_iadd (n := 120) ok dX0_isAsItMust_119 rfl ?_
    refine g_iconst (n := 121) (v := 2) ok dX0_isAsItMust_120 rfl rfl ?_
    refine g_callV (n := 124) (rest := [vi (fX0_digitAt I (start + 1))]) (av := [vi (start + 2), vi (nI 2)]) (j := 47) ok (kX0_numberAt I (start + 2) 2 (by first | with_reducible assumption | omega) (by first | with_reducible assumption | omega)) knX0_numberAt q249 q251 qs11 clsX0 rfl dX0_isAsItMust_121 rfl rfl (Nat.le_of_ble_eq_true rfl) (by decide) (by decide) rfl ?_
    refine g_callSN (n := 127) (rest := []) (av := [vi (fX0_digitAt I (start + 1)), vi (fX0_numberAt I (start + 2) 2)]) ok (kX5_isSpot I (fX0_digitAt I (start + 1)) (fX0_numberAt I (start + 2) 2)) knX5_isSpot q260 q261 dX0_isAsItMust_124 rfl rfl (Nat.le_of_ble_eq_true rfl) (by decide) (by decide) rfl ?_
    refine g_if_eq (n := 130) (tgt := 145) ok dX0_isAsItMust_127 (by decide) rfl (fun c2 => ?_) (fun c2 => ?_)
    · rw [if_pos c2]
      refine g_iconst (n := 146) (v := 0) ok dX0_isAsItMust_145 rfl rfl ?_
      exact g_zret (x := 0) ok hr dX0_isAsItMust_146 (by decide)
    · rw [if_neg c2]
      have ha3 : vp_in (fX0_digitAt I (start + 1)) 2 := isSpot_in1 c2
      have ha3b := vb ha3
      have ha4 : vp_in (fX0_numberAt I (start + 2) 2) 12 := isSpot_in2 c2
      have ha4b := vb ha4
      refine g_aload_n (n := 131) ok 1 dX0_isAsItMust_130 rfl rfl rfl ?_
      refine g_iload_n (n := 132) ok 2 dX0_isAsItMust_131 rfl rfl rfl ?_
      refine g_iconst (n := 133) (v := 4) ok dX0_isAsItMust_132 rfl rfl ?_
      refine g_iadd (n := 134) ok dX0_isAsItMust_133 rfl ?_
      refine g_callV (n := 137) (rest := []) (av := [vi (start + 4)]) (j := 47) ok (kX0_digitAt I (start + 4) (by first | with_reducible assumption | omega)) knX0_digitAt q241 q243 qs9 clsX0 rfl dX0_isAsItMust_134 rfl rfl (Nat.le_of_ble_eq_true rfl) (by decide) (by decide) rfl ?_
      refine g_iconst (n := 138) (v := 3) ok dX0_isAsItMust_137 rfl rfl ?_
      refine g_icmp_gt (n := 141) (tgt := 145) ok dX0_isAsItMust_138 (by decide) rfl (fun c5 => ?_) (fun c5 => ?_)
      · rw [if_pos c5]
        refine g_iconst (n := 146) (v := 0) ok dX0_isAsItMust_145 rfl rfl ?_
        exact g_zret (x := 0) ok hr dX0_isAsItMust_146 (by decide)
      · rw [if_neg c5]
        refine g_iconst (n := 142) (v := 1) ok dX0_isAsItMust_141 rfl rfl ?_
        refine g_goto (tgt := 146) ok dX0_isAsItMust_142 (by decide) ?_
        exact g_zret (x := 1) ok hr dX0_isAsItMust_146 (by decide)
  · rw [if_neg c1]
    by_cases c6 : fX0_signAt I start = 107
    · rw [if_pos c6]
      refine g_tabIn (off := 94) (tgt := 107) ok dX0_isAsItMust_13 (by rw [c6]; decide) (by rw [c6]; decide) (by rw [c6]; rfl) (by decide) ?_
      refine g_iload_n (n := 108) ok 0 dX0_isAsItMust_107 rfl rfl rfl ?_
      refine g_iconst (n := 109) (v := 0) ok dX0_isAsItMust_108 rfl rfl ?_
      refine g_bipush (n := 111) (v := 6) ok dX0_isAsItMust_109 rfl rfl ?_
      refine g_callSN (n := 114) (rest := []) (av := [vi (fX0_digitAt I (start + 1)), vi 0, vi 6]) ok (kX5_within I (fX0_digitAt I (start + 1)) 0 6) knX5_within q224 q194 dX0_isAsItMust_111 rfl rfl (Nat.le_of_ble_eq_true rfl) (by decide) (by decide) rfl ?_
      exact g_zret (x := fX5_within (fX0_digitAt I (start + 1)) 0 6) ok hr dX0_isAsItMust_114 (by first | exact zX5_within .. | exact zX5_within)
    · rw [if_neg c6]
      by_cases c7 : fX0_signAt I start = 111
      · rw [if_pos c7]
        refine g_tabIn (off := 134) (tgt := 147) ok dX0_isAsItMust_13 (by rw [c7]; decide) (by rw [c7]; decide) (by rw [c7]; rfl) (by decide) ?_
        refine g_iload_n (n := 148) ok 0 dX0_isAsItMust_147 rfl rfl rfl ?_
        refine g_aload_n (n := 149) ok 1 dX0_isAsItMust_148 rfl rfl rfl ?_
        refine g_iload_n (n := 150) ok 2 dX0_isAsItMust_149 rfl rfl rfl ?_
        refine g_iconst (n := 151) (v := 2) ok dX0_isAsItMust_150 rfl rfl ?_
        refine g_iadd (n := 152) ok dX0_isAsItMust_151 rfl ?_
        refine g_iconst (n := 153) (v := 2) ok dX0_isAsItMust_152 rfl rfl ?_
        refine g_callV (n := 156) (rest := [vi (fX0_digitAt I (start + 1))]) (av := [vi (start + 2), vi (nI 2)]) (j := 47) ok (kX0_numberAt I (start + 2) 2 (by first | with_reducible assumption | omega) (by first | with_reducible assumption | omega)) knX0_numberAt q249 q251 qs11 clsX0 rfl dX0_isAsItMust_153 rfl rfl (Nat.le_of_ble_eq_true rfl) (by decide) (by decide) rfl ?_
        refine g_callSN (n := 159) (rest := []) (av := [vi (fX0_digitAt I (start + 1)), vi (fX0_numberAt I (start + 2) 2)]) ok (kX5_isSpot I (fX0_digitAt I (start + 1)) (fX0_numberAt I (start + 2) 2)) knX5_isSpot q260 q261 dX0_isAsItMust_156 rfl rfl (Nat.le_of_ble_eq_true rfl) (by decide) (by decide) rfl ?_
        exact g_zret (x := fX5_isSpot (fX0_digitAt I (start + 1)) (fX0_numberAt I (start + 2) 2)) ok hr dX0_isAsItMust_159 (by first | exact zX5_isSpot .. | exact zX5_isSpot)
      · rw [if_neg c7]
        by_cases c8 : fX0_signAt I start = 115
        · rw [if_pos c8]
          refine g_tabIn (off := 67) (tgt := 80) ok dX0_isAsItMust_13 (by rw [c8]; decide) (by rw [c8]; decide) (by rw [c8]; rfl) (by decide) ?_
          refine g_iload_n (n := 81) ok 0 dX0_isAsItMust_80 rfl rfl rfl ?_
          refine g_iconst (n := 82) (v := 0) ok dX0_isAsItMust_81 rfl rfl ?_
          refine g_iconst (n := 83) (v := 4) ok dX0_isAsItMust_82 rfl rfl ?_
          refine g_callSN (n := 86) (rest := []) (av := [vi (fX0_digitAt I (start + 1)), vi 0, vi 4]) ok (kX5_within I (fX0_digitAt I (start + 1)) 0 4) knX5_within q224 q194 dX0_isAsItMust_83 rfl rfl (Nat.le_of_ble_eq_true rfl) (by decide) (by decide) rfl ?_
          refine g_if_eq (n := 89) (tgt := 105) ok dX0_isAsItMust_86 (by decide) rfl (fun c9 => ?_) (fun c9 => ?_)
          · rw [if_pos c9]
            refine g_iconst (n := 106) (v := 0) ok dX0_isAsItMust_105 rfl rfl ?_
            exact g_zret (x := 0) ok hr dX0_isAsItMust_106 (by decide)
          · rw [if_neg c9]
            have ha10 : vp_in (fX0_digitAt I (start + 1)) 5 := within_in (b := 4) c9 (by omega)
            have ha10b := vb ha10
            have h5 := within_in (b := 4) c9 (by omega)
            have h5b := vb h5
            refine g_iload_n (n := 90) ok 0 dX0_isAsItMust_89 rfl rfl rfl ?_
            refine g_aload_n (n := 91) ok 1 dX0_isAsItMust_90 rfl rfl rfl ?_
            refine g_iload_n (n := 92) ok 2 dX0_isAsItMust_91 rfl rfl rfl ?_
            refine g_callV (n := 95) (rest := [vi (fX0_digitAt I (start + 1))]) (av := [vi start]) (j := 47) ok (kX0_settingNumber I start (by first | with_reducible assumption | omega)) knX0_settingNumber q245 q247 qs10 clsX0 rfl dX0_isAsItMust_92 rfl rfl (Nat.le_of_ble_eq_true rfl) (by decide) (by decide) rfl ?_
            refine g_callSN (n := 98) (rest := []) (av := [vi (nI (ix (fX0_digitAt I (start + 1)))), vi (fX0_settingNumber I start)]) ok (kX5_fitsSetting I (ix (fX0_digitAt I (start + 1))) (fX0_settingNumber I start) (by first | with_reducible assumption | omega)) knX5_fitsSetting q253 q254 dX0_isAsItMust_95 (lcons rfl (lcons (congrArg vi (vx h5)) rfl)) rfl (Nat.le_of_ble_eq_true rfl) (by decide) (by decide) rfl ?_
            refine g_if_eq (n := 101) (tgt := 105) ok dX0_isAsItMust_98 (by decide) rfl (fun c11 => ?_) (fun c11 => ?_)
            · rw [if_pos c11]
              refine g_iconst (n := 106) (v := 0) ok dX0_isAsItMust_105 rfl rfl ?_
              exact g_zret (x := 0) ok hr dX0_isAsItMust_106 (by decide)
            · rw [if_neg c11]
              refine g_iconst (n := 102) (v := 1) ok dX0_isAsItMust_101 rfl rfl ?_
              refine g_goto (tgt := 106) ok dX0_isAsItMust_102 (by decide) ?_
              exact g_zret (x := 1) ok hr dX0_isAsItMust_106 (by decide)
        · rw [if_neg c8]
          by_cases c12 : fX0_signAt I start = 116
          · rw [if_pos c12]
            refine g_tabIn (off := 147) (tgt := 160) ok dX0_isAsItMust_13 (by rw [c12]; decide) (by rw [c12]; decide) (by rw [c12]; rfl) (by decide) ?_
            refine g_aload_n (n := 161) ok 1 dX0_isAsItMust_160 rfl rfl rfl ?_
            refine g_iload_n (n := 162) ok 2 dX0_isAsItMust_161 rfl rfl rfl ?_
            refine g_iconst (n := 163) (v := 2) ok dX0_isAsItMust_162 rfl rfl ?_
            refine g_iadd (n := 164) ok dX0_isAsItMust_163 rfl ?_
            refine g_callV (n := 167) (rest := []) (av := [vi (start + 2)]) (j := 47) ok (kX0_digitAt I (start + 2) (by first | with_reducible assumption | omega)) knX0_digitAt q241 q243 qs9 clsX0 rfl dX0_isAsItMust_164 rfl rfl (Nat.le_of_ble_eq_true rfl) (by decide) (by decide) rfl ?_
            refine g_istore (n := 169) (lv' := [(4, vi (fX0_digitAt I (start + 2))), (3, vi (fX0_digitAt I (start + 1))), (0, vr 47), (1, vi start), (2, vi room)]) ok dX0_isAsItMust_167 (by decide) rfl rfl ?_
            refine g_aload_n (n := 170) ok 2 dX0_isAsItMust_169 rfl rfl rfl ?_
            refine g_iload_n (n := 171) ok 3 dX0_isAsItMust_170 rfl rfl rfl ?_
            refine g_iconst (n := 172) (v := 3) ok dX0_isAsItMust_171 rfl rfl ?_
            refine g_iadd (n := 173) ok dX0_isAsItMust_172 rfl ?_
            refine g_callV (n := 176) (rest := []) (av := [vi (start + 3)]) (j := 47) ok (kX0_digitAt I (start + 3) (by first | with_reducible assumption | omega)) knX0_digitAt q241 q243 qs9 clsX0 rfl dX0_isAsItMust_173 rfl rfl (Nat.le_of_ble_eq_true rfl) (by decide) (by decide) rfl ?_
            refine g_istore (n := 178) (lv' := [(5, vi (fX0_digitAt I (start + 3))), (4, vi (fX0_digitAt I (start + 2))), (3, vi (fX0_digitAt I (start + 1))), (0, vr 47), (1, vi start), (2, vi room)]) ok dX0_isAsItMust_176 (by decide) rfl rfl ?_
            refine g_iload_n (n := 179) ok 2 dX0_isAsItMust_178 rfl rfl rfl ?_
            refine g_callSN (n := 182) (rest := []) (av := [vi (fX0_digitAt I (start + 1))]) ok (kX5_isFoot I (fX0_digitAt I (start + 1))) knX5_isFoot q269 q264 dX0_isAsItMust_179 rfl rfl (Nat.le_of_ble_eq_true rfl) (by decide) (by decide) rfl ?_
            refine g_if_eq (n := 185) (tgt := 203) ok dX0_isAsItMust_182 (by decide) rfl (fun c13 => ?_) (fun c13 => ?_)
            · rw [if_pos c13]
              refine g_iconst (n := 204) (v := 0) ok dX0_isAsItMust_203 rfl rfl ?_
              exact g_zret (x := 0) ok hr dX0_isAsItMust_204 (by decide)
            · rw [if_neg c13]
              have ha14 : vp_in (fX0_digitAt I (start + 1)) 2 := isFoot_in c13
              have ha14b := vb ha14
              refine g_iload (n := 187) ok 1 dX0_isAsItMust_185 rfl rfl ?_
              refine g_iload (n := 189) ok 0 dX0_isAsItMust_187 rfl rfl ?_
              refine g_callSN (n := 192) (rest := []) (av := [vi (fX0_digitAt I (start + 2)), vi (fX0_digitAt I (start + 3))]) ok (kX5_strokeFault I (fX0_digitAt I (start + 2)) (fX0_digitAt I (start + 3))) knX5_strokeFault q270 q271 dX0_isAsItMust_189 rfl rfl (Nat.le_of_ble_eq_true rfl) (by decide) (by decide) rfl ?_
              refine g_if_ne (n := 195) (tgt := 203) ok dX0_isAsItMust_192 (by decide) rfl (fun c15 => ?_) (fun c15 => ?_)
              · rw [if_neg c15]
                refine g_iconst (n := 204) (v := 0) ok dX0_isAsItMust_203 rfl rfl ?_
                exact g_zret (x := 0) ok hr dX0_isAsItMust_204 (by decide)
              · rw [if_pos c15]
                refine g_iload_n (n := 196) ok 5 dX0_isAsItMust_195 rfl rfl rfl ?_
                refine g_if_le (n := 199) (tgt := 203) ok dX0_isAsItMust_196 (by decide) rfl (fun c16 => ?_) (fun c16 => ?_)
                · rw [if_pos c16]
                  refine g_iconst (n := 204) (v := 0) ok dX0_isAsItMust_203 rfl rfl ?_
                  exact g_zret (x := 0) ok hr dX0_isAsItMust_204 (by decide)
                · rw [if_neg c16]
                  refine g_iconst (n := 200) (v := 1) ok dX0_isAsItMust_199 rfl rfl ?_
                  refine g_goto (tgt := 204) ok dX0_isAsItMust_200 (by decide) ?_
                  exact g_zret (x := 1) ok hr dX0_isAsItMust_204 (by decide)
          · rw [if_neg c12]
            refine g_tabDef (tgt := 205) ok dX0_isAsItMust_13 (by have h0 : (fX0_signAt I start).toInt ≠ 104 := ne_toInt c1; have h1 : (fX0_signAt I start).toInt ≠ 107 := ne_toInt c6; have h2 : (fX0_signAt I start).toInt ≠ 111 := ne_toInt c7; have h3 : (fX0_signAt I start).toInt ≠ 115 := ne_toInt c8; have h4 : (fX0_signAt I start).toInt ≠ 116 := ne_toInt c12; rcases (show (fX0_signAt I start).toInt < 104 ∨ 116 < (fX0_signAt I start).toInt ∨ (fX0_signAt I start).toInt = 105 ∨ (fX0_signAt I start).toInt = 106 ∨ (fX0_signAt I start).toInt = 108 ∨ (fX0_signAt I start).toInt = 109 ∨ (fX0_signAt I start).toInt = 110 ∨ (fX0_signAt I start).toInt = 112 ∨ (fX0_signAt I start).toInt = 113 ∨ (fX0_signAt I start).toInt = 114 by omega) with h | h | h | h | h | h | h | h | h | h; exact Or.inl h; exact Or.inr (Or.inl h); all_goals exact Or.inr (Or.inr ⟨by rw [h]; rfl, by omega, by omega⟩)) (by decide) ?_
            refine g_iconst (n := 206) (v := 1) ok dX0_isAsItMust_205 rfl rfl ?_
            exact g_zret (x := 1) ok hr dX0_isAsItMust_206 (by decide)

noncomputable def fX0_faultyOne_x7 (x7_2 : Int32) : Int32 :=
  0
noncomputable def fX0_faultyOne_b7 (I : HI) (i7 : Nat) (x7_2 : Int32) : (Int32) ⊕ (Int32) :=
  if fX0_isAsItMust I (I 49 i7) x7_2 = 0 then Sum.inl ((-2000) - (I 49 i7)) else (if fX0_signAt I (I 49 i7) = 116 then Sum.inr (x7_2 + (-1)) else (if fX0_signAt I (I 49 i7) = 119 then Sum.inr 6 else Sum.inr x7_2))
noncomputable def fX0_faultyOne (I : HI) (drawn : Int32) : Int32 :=
  foE (ix (I 47 3)) 0 (fun (i : Nat) (s : Int32) => fX0_faultyOne_b7 I i s) (fun (s : Int32) => fX0_faultyOne_x7 s) (6 - drawn)
theorem knX0_faultyOne : Kn yX0_faultyOne cX0_faultyOne 5 (some .int) 1 := ⟨q236, q7, ⟨by decide, by decide⟩, by decide +kernel⟩
set_option maxHeartbeats 400000 in
set_option maxRecDepth 100000 in
theorem kX0_faultyOne (I : HI) (drawn : Int32) (hm : vp_in (I 47 1) 97) (hs : vp_in (I 47 3) 97) : Cx yX0_faultyOne cX0_faultyOne 5 (some .int) 4 92 [vr 47, vi drawn] I ((some (vi ((fX0_faultyOne I drawn))), I)) := by
  refine Cx.mk (lv := [(0, vr 47), (1, vi drawn)]) (by decide) (Nat.le_of_ble_eq_true rfl) rfl (fun E ok hr => ?_)
  have hsb := vb hs
  rw [fX0_faultyOne]
  refine g_bipush (n := 2) (v := 6) ok dX0_faultyOne_0 rfl rfl ?_
  refine g_iload_n (n := 3) ok 1 dX0_faultyOne_2 rfl rfl rfl ?_
  refine g_isub (n := 4) ok dX0_faultyOne_3 rfl ?_
  refine g_istore_n (n := 5) (lv' := [(2, vi (6 - drawn)), (0, vr 47), (1, vi drawn)]) ok dX0_faultyOne_4 rfl (by decide) rfl rfl ?_
  refine g_iconst (n := 6) (v := 0) ok dX0_faultyOne_5 rfl rfl ?_
  refine g_istore_n (n := 7) (lv' := [(3, vi 0), (2, vi (6 - drawn)), (0, vr 47), (1, vi drawn)]) ok dX0_faultyOne_6 rfl (by decide) rfl rfl ?_
  have X7 : ∀ (x7_2 : Int32), G E 5 ((some (vi ((fX0_faultyOne_x7 x7_2))), I)) I 77 [] [] := by
    intro x7_2
    rw [fX0_faultyOne_x7]
    refine g_iconst (n := 78) (v := 0) ok dX0_faultyOne_77 rfl rfl ?_
    exact g_iret ok hr dX0_faultyOne_78
  have L7 : ∀ (n7 i7 : Nat) (x7_2 : Int32) (hi : i7 + n7 = ix (I 47 3)), G E 5 ((some (vi ((foE n7 i7 (fun (i : Nat) (s : Int32) => fX0_faultyOne_b7 I i s) (fun (s : Int32) => fX0_faultyOne_x7 s) x7_2))), I)) I 7 [(3, vi (nI i7)), (2, vi x7_2), (0, vr 47)] [] := by
    intro n7
    induction n7 with
    | zero =>
      intro i7 x7_2 hi
      rw [foE_0]
      refine g_iload_n (n := 8) ok 0 dX0_faultyOne_7 rfl rfl rfl ?_
      refine g_aload_n (n := 9) ok 2 dX0_faultyOne_8 rfl rfl rfl ?_
      refine g_get (n := 12) (v := vi (I 47 3)) (c := 0) (k := 3) ok dX0_faultyOne_9 clsX0 (by decide) q141 rfl rfl rfl ?_
      refine g_icmp_ge (n := 15) (tgt := 77) ok dX0_faultyOne_12 (by decide) rfl (fun c => ?_) (fun c => absurd (nle (a := ix (I 47 3)) (b := i7) (vx hs) rfl (by omega) (by omega)) c)
      refine g_sub [] rfl ?_
      exact X7 _
    | succ n7 ih =>
      intro i7 x7_2 hi
      refine g_iload_n (n := 8) ok 0 dX0_faultyOne_7 rfl rfl rfl ?_
      refine g_aload_n (n := 9) ok 2 dX0_faultyOne_8 rfl rfl rfl ?_
      refine g_get (n := 12) (v := vi (I 47 3)) (c := 0) (k := 3) ok dX0_faultyOne_9 clsX0 (by decide) q141 rfl rfl rfl ?_
      refine g_icmp_ge (n := 15) (tgt := 77) ok dX0_faultyOne_12 (by decide) rfl (fun c => absurd c (nnle (a := ix (I 47 3)) (b := i7) (vx hs) rfl (by omega) (by omega))) (fun c => ?_)
      rw [foE_s]
      show G E 5 ((some (vi ((Sum.elim id (fun (s : Int32) => foE n7 (i7 + 1) (fun (i : Nat) (s : Int32) => fX0_faultyOne_b7 I i s) (fun (s : Int32) => fX0_faultyOne_x7 s) s) (fX0_faultyOne_b7 I i7 x7_2)))), I)) _ _ _ _
      rw [fX0_faultyOne_b7]
      refine g_aload_n (n := 16) ok 2 dX0_faultyOne_15 rfl rfl rfl ?_
      refine g_get (n := 19) (v := vr 49) (c := 0) (k := 2) ok dX0_faultyOne_16 clsX0 (by decide) q140 rfl rfl rfl ?_
      refine g_iload_n (n := 20) ok 0 dX0_faultyOne_19 rfl rfl rfl ?_
      refine g_iald (n := 21) (i := i7) (L := 96) ok dX0_faultyOne_20 rfl rfl rfl (by omega) rfl ?_
      refine g_istore (n := 23) (lv' := [(4, vi (I 49 i7)), (3, vi (nI i7)), (2, vi x7_2), (0, vr 47)]) ok dX0_faultyOne_21 (by decide) rfl rfl ?_
      refine g_aload_n (n := 24) ok 3 dX0_faultyOne_23 rfl rfl rfl ?_
      refine g_iload (n := 26) ok 0 dX0_faultyOne_24 rfl rfl ?_
      refine g_iload_n (n := 27) ok 2 dX0_faultyOne_26 rfl rfl rfl ?_
      refine g_callV (n := 30) (rest := []) (av := [vi (I 49 i7), vi x7_2]) (j := 47) ok (kX0_isAsItMust I (I 49 i7) x7_2 (by first | with_reducible assumption | omega)) knX0_isAsItMust q237 q239 qs8 clsX0 rfl dX0_faultyOne_27 rfl rfl (Nat.le_of_ble_eq_true rfl) (by decide) (by decide) rfl ?_
      refine g_if_ne (n := 33) (tgt := 40) ok dX0_faultyOne_30 (by decide) rfl (fun c1 => ?_) (fun c1 => ?_)
      · rw [if_neg c1]
        refine g_aload_n (n := 41) ok 3 dX0_faultyOne_40 rfl rfl rfl ?_
        refine g_iload (n := 43) ok 0 dX0_faultyOne_41 rfl rfl ?_
        refine g_callV (n := 46) (rest := []) (av := [vi (I 49 i7)]) (j := 47) ok (kX0_signAt I (I 49 i7) (by first | with_reducible assumption | omega)) knX0_signAt q216 q218 qs3 clsX0 rfl dX0_faultyOne_43 rfl rfl (Nat.le_of_ble_eq_true rfl) (by decide) (by decide) rfl ?_
        refine g_bipush (n := 48) (v := 116) ok dX0_faultyOne_46 rfl rfl ?_
        refine g_icmp_ne (n := 51) (tgt := 57) ok dX0_faultyOne_48 (by decide) rfl (fun c2 => ?_) (fun c2 => ?_)
        · rw [if_neg c2]
          refine g_aload_n (n := 58) ok 3 dX0_faultyOne_57 rfl rfl rfl ?_
          refine g_iload (n := 60) ok 0 dX0_faultyOne_58 rfl rfl ?_
          refine g_callV (n := 63) (rest := []) (av := [vi (I 49 i7)]) (j := 47) ok (kX0_signAt I (I 49 i7) (by first | with_reducible assumption | omega)) knX0_signAt q216 q218 qs3 clsX0 rfl dX0_faultyOne_60 rfl rfl (Nat.le_of_ble_eq_true rfl) (by decide) (by decide) rfl ?_
          refine g_bipush (n := 65) (v := 119) ok dX0_faultyOne_63 rfl rfl ?_
          refine g_icmp_ne (n := 68) (tgt := 71) ok dX0_faultyOne_65 (by decide) rfl (fun c3 => ?_) (fun c3 => ?_)
          · rw [if_neg c3]
            refine g_iinc (n := 74) (v := nI (i7 + 1)) (lv' := [(3, vi (nI (i7 + 1))), (4, vi (I 49 i7)), (2, vi x7_2), (0, vr 47)]) ok 1 dX0_faultyOne_71 rfl (iinc_n (a := i7) rfl) (by decide) rfl rfl ?_
            refine g_goto (tgt := 7) ok dX0_faultyOne_74 (by decide) ?_
            refine g_sub [0, 2, 3] rfl ?_
            exact ih (i7 + 1) x7_2 (by omega)
          · rw [if_pos c3]
            refine g_bipush (n := 70) (v := 6) ok dX0_faultyOne_68 rfl rfl ?_
            refine g_istore_n (n := 71) (lv' := [(2, vi 6), (4, vi (I 49 i7)), (3, vi (nI i7)), (0, vr 47)]) ok dX0_faultyOne_70 rfl (by decide) rfl rfl ?_
            refine g_iinc (n := 74) (v := nI (i7 + 1)) (lv' := [(3, vi (nI (i7 + 1))), (2, vi 6), (4, vi (I 49 i7)), (0, vr 47)]) ok 2 dX0_faultyOne_71 rfl (iinc_n (a := i7) rfl) (by decide) rfl rfl ?_
            refine g_goto (tgt := 7) ok dX0_faultyOne_74 (by decide) ?_
            refine g_sub [0, 1, 3] rfl ?_
            exact ih (i7 + 1) 6 (by omega)
        · rw [if_pos c2]
          refine g_iinc (n := 54) (v := x7_2 + (-1)) (lv' := [(2, vi (x7_2 + (-1))), (4, vi (I 49 i7)), (3, vi (nI i7)), (0, vr 47)]) ok 2 dX0_faultyOne_51 rfl rfl (by decide) rfl rfl ?_
          refine g_goto (tgt := 71) ok dX0_faultyOne_54 (by decide) ?_
          refine g_iinc (n := 74) (v := nI (i7 + 1)) (lv' := [(3, vi (nI (i7 + 1))), (2, vi (x7_2 + (-1))), (4, vi (I 49 i7)), (0, vr 47)]) ok 2 dX0_faultyOne_71 rfl (iinc_n (a := i7) rfl) (by decide) rfl rfl ?_
          refine g_goto (tgt := 7) ok dX0_faultyOne_74 (by decide) ?_
          refine g_sub [0, 1, 3] rfl ?_
          exact ih (i7 + 1) (x7_2 + (-1)) (by omega)
      · rw [if_pos c1]
        refine g_sipush (n := 36) (v := -2000) ok dX0_faultyOne_33 rfl rfl ?_
        refine g_iload (n := 38) ok 0 dX0_faultyOne_36 rfl rfl ?_
        refine g_isub (n := 39) ok dX0_faultyOne_38 rfl ?_
        exact g_iret ok hr dX0_faultyOne_39
  refine g_sub [0, 1, 2] rfl ?_
  exact L7 (ix (I 47 3)) 0 (6 - drawn) (by omega)

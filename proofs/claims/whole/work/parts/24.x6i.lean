theorem here_ix {I : HI} (hA : vp_in (I 52 14) 97) (hm : vp_in (I 52 13) 97) (c : ¬ I 52 13 ≤ I 52 14) : ix (I 52 14) < 96 := by
  have h1 := vb hA
  have h2 := vb hm
  rw [vx hA, vx hm] at c
  have := lt_of_nnle c (by omega)
  omega
noncomputable def fX6_here (I : HI) : Int32 :=
  if I 52 13 ≤ I 52 14 then (-1) else I 61 (ix (I 52 14))
theorem knX6_here : Kn yX6_here cX6_here 1 (some .int) 0 := ⟨q785, q8, ⟨by decide, by decide⟩, by decide +kernel⟩
set_option maxHeartbeats 400000 in
set_option maxRecDepth 100000 in
theorem kX6_here (I : HI) (hA : vp_in (I 52 14) 97) (hm : vp_in (I 52 13) 97) : Cx yX6_here cX6_here 1 (some .int) 0 0 [vr 52] I ((some (vi ((fX6_here I))), I)) := by
  refine Cx.mk (lv := [(0, vr 52)]) (by decide) (Nat.le_of_ble_eq_true rfl) rfl (fun E ok hr => ?_)
  have hA1 := vb hA
  have hm1 := vb hm
  rw [fX6_here]
  refine g_aload_n (n := 1) ok 0 dX6_here_0 rfl rfl rfl ?_
  refine g_get (n := 4) (v := vi (I 52 14)) (c := 6) (k := 14) ok dX6_here_1 clsX6 (by decide) q692 rfl rfl rfl ?_
  refine g_aload_n (n := 5) ok 0 dX6_here_4 rfl rfl rfl ?_
  refine g_get (n := 8) (v := vi (I 52 13)) (c := 6) (k := 13) ok dX6_here_5 clsX6 (by decide) q691 rfl rfl rfl ?_
  refine g_icmp_ge (n := 11) (tgt := 23) ok dX6_here_8 (by decide) rfl (fun c1 => ?_) (fun c1 => ?_)
  · rw [if_pos c1]
    refine g_iconst (n := 24) (v := -1) ok dX6_here_23 rfl rfl ?_
    exact g_iret ok hr dX6_here_24
  · rw [if_neg c1]
    have h96 := here_ix hA hm c1
    refine g_aload_n (n := 12) ok 0 dX6_here_11 rfl rfl rfl ?_
    refine g_get (n := 15) (v := vr 61) (c := 6) (k := 12) ok dX6_here_12 clsX6 (by decide) q690 rfl rfl rfl ?_
    refine g_aload_n (n := 16) ok 0 dX6_here_15 rfl rfl rfl ?_
    refine g_get (n := 19) (v := vi (I 52 14)) (c := 6) (k := 14) ok dX6_here_16 clsX6 (by decide) q692 rfl rfl rfl ?_
    refine g_iald (n := 20) (i := ix (I 52 14)) (L := 96) ok dX6_here_19 rfl rfl (vx hA) (by omega) rfl ?_
    refine g_goto (tgt := 24) ok dX6_here_20 (by decide) ?_
    exact g_iret ok hr dX6_here_24
theorem here_lt {I : HI} (hA : vp_in (I 52 14) 97) (hm : vp_in (I 52 13) 97) (h : ¬ fX6_here I = (-1)) : ix (I 52 14) < ix (I 52 13) := by
  unfold fX6_here at h
  split at h
  · exact absurd rfl h
  · rename_i c
    rw [vx hA, vx hm] at c
    exact lt_of_nnle c (by have := vb hA; omega)
theorem here_eq {I : HI} {k : Int32} (hA : vp_in (I 52 14) 97) (hm : vp_in (I 52 13) 97) (h : fX6_here I = k) (hk : ¬ k = (-1)) : ix (I 52 14) < ix (I 52 13) := here_lt hA hm (by rw [h]; exact hk)
theorem here_in {I : HI} (hA : vp_in (I 52 14) 97) (hm : vp_in (I 52 13) 97) (h : ¬ fX6_in (fX6_here I).toInt64 48 57 = 0) : ix (I 52 14) < ix (I 52 13) := by
  refine here_lt hA hm (fun e => h ?_)
  rw [e]
  decide +kernel
theorem at_inc {x m d : Int32} (hx : vp_in x 97) (hm : vp_in m 97) (h : d = 0 ∨ (d = 1 ∧ ix x < ix m)) : vp_in (x + d) 97 := by
  have h1 := vb hx
  have h2 := vb hm
  rcases h with rfl | ⟨rfl, h⟩
  · rw [vx hx, show nI (ix x) + 0 = nI (ix x + 0) from nv_iadd (a := ix x) (b := 0) rfl rfl]
    exact vp_nI (by omega) (by omega)
  · rw [vx hx, ← nI_succ]
    exact vp_nI (by omega) (by omega)

noncomputable def fX6_readDigit (I : HI) : Int32 × HI :=
  if I 52 15 = 0 then (if fX6_in ((fX6_here I).toInt64) 48 57 = 0 then (0, (up I 52 15 1)) else ((I 61 (ix (I 52 14))) - 48, (up (up I 52 15 0) 52 14 ((I 52 14) + 1)))) else (0, (up I 52 15 1))
theorem knX6_readDigit : Kn yX6_readDigit cX6_readDigit 1 (some .int) 0 := ⟨q789, q8, ⟨by decide, by decide⟩, by decide +kernel⟩
set_option maxHeartbeats 400000 in
set_option maxRecDepth 100000 in
theorem kX6_readDigit (I : HI) (hA : vp_in (I 52 14) 97) (hm : vp_in (I 52 13) 97) : Cx yX6_readDigit cX6_readDigit 1 (some .int) 1 25 [vr 52] I ((some (vi (((fX6_readDigit I).1))), (fX6_readDigit I).2)) := by
  refine Cx.mk (lv := [(0, vr 52)]) (by decide) (Nat.le_of_ble_eq_true rfl) rfl (fun E ok hr => ?_)
  have hA1 := vb hA
  have hm1 := vb hm
  rw [fX6_readDigit]
  refine g_aload_n (n := 1) ok 0 dX6_readDigit_0 rfl rfl rfl ?_
  refine g_aload_n (n := 2) ok 0 dX6_readDigit_1 rfl rfl rfl ?_
  refine g_get (n := 5) (v := vi (I 52 15)) (c := 6) (k := 15) ok dX6_readDigit_2 clsX6 (by decide) q693 rfl rfl rfl ?_
  refine g_if_ne (n := 8) (tgt := 25) ok dX6_readDigit_5 (by decide) rfl (fun c1 => ?_) (fun c1 => ?_)
  · rw [if_neg c1]
    refine g_iconst (n := 26) (v := 1) ok dX6_readDigit_25 rfl rfl ?_
    refine g_goto (tgt := 30) ok dX6_readDigit_26 (by decide) ?_
    refine g_put (n := 33) (J := up I 52 15 1) (c := 6) (k := 15) ok dX6_readDigit_30 clsX6 tyX6 tyX6_ok nmX6 (by decide) q693 rfl rfl (bnar (by decide)) (bfit (by decide)) (Nat.le_of_ble_eq_true rfl) (fs_6_15 _ _ _) up_ne rfl ?_
    refine g_aload_n (n := 34) ok 0 dX6_readDigit_33 rfl rfl rfl ?_
    refine g_get (n := 37) (v := vi ((up I 52 15 1) 52 15)) (c := 6) (k := 15) ok dX6_readDigit_34 clsX6 (by decide) q693 rfl rfl rfl ?_
    refine g_top up_v ?_
    refine g_if_eq (n := 40) (tgt := 42) ok dX6_readDigit_37 (by decide) rfl (fun c2 => ?_) (fun c2 => ?_)
    · exact absurd c2 (by decide)
    · refine g_iconst (n := 41) (v := 0) ok dX6_readDigit_40 rfl rfl ?_
      exact g_iret ok hr dX6_readDigit_41
  · rw [if_pos c1]
    refine g_aload_n (n := 9) ok 0 dX6_readDigit_8 rfl rfl rfl ?_
    refine g_callV (n := 12) (rest := [vr 52]) (av := []) (j := 52) ok (kX6_here I (by first | with_reducible assumption | omega) (by first | with_reducible assumption | omega)) knX6_here q782 q784 qs27 clsX6 rfl dX6_readDigit_9 rfl rfl (Nat.le_of_ble_eq_true rfl) (by decide) (by decide) rfl ?_
    refine g_i2l (n := 13) ok dX6_readDigit_12 rfl ?_
    refine g_ldc2_w (n := 16) ok dX6_readDigit_13 q790 rfl ?_
    refine g_ldc2_w (n := 19) ok dX6_readDigit_16 q791 rfl ?_
    refine g_callS (n := 22) (rest := [vr 52]) (av := [vl ((fX6_here I).toInt64), vl 48, vl 57]) ok (kX6_in I ((fX6_here I).toInt64) 48 57) knX6_in q792 q793 dX6_readDigit_19 rfl rfl (Nat.le_of_ble_eq_true rfl) (by decide) (by decide) rfl ?_
    refine g_if_ne (n := 25) (tgt := 29) ok dX6_readDigit_22 (by decide) rfl (fun c3 => ?_) (fun c3 => ?_)
    · rw [if_neg c3]
      have ha4 : vp_in (fX6_here I) 58 := in6_in2 (a := 48) (b := 57) c3 (by omega) (by omega)
      have ha4b := vb ha4
      have hx5 := in6_ge (a := 48) (b := 57) c3 (by omega) (by omega)
      have hlt := here_in hA hm c3
      refine g_iconst (n := 30) (v := 0) ok dX6_readDigit_29 rfl rfl ?_
      refine g_put (n := 33) (J := up I 52 15 0) (c := 6) (k := 15) ok dX6_readDigit_30 clsX6 tyX6 tyX6_ok nmX6 (by decide) q693 rfl rfl (bnar (by decide)) (bfit (by decide)) (Nat.le_of_ble_eq_true rfl) (fs_6_15 _ _ _) up_ne rfl ?_
      refine g_aload_n (n := 34) ok 0 dX6_readDigit_33 rfl rfl rfl ?_
      refine g_get (n := 37) (v := vi ((up I 52 15 0) 52 15)) (c := 6) (k := 15) ok dX6_readDigit_34 clsX6 (by decide) q693 rfl rfl rfl ?_
      refine g_top up_v ?_
      refine g_if_eq (n := 40) (tgt := 42) ok dX6_readDigit_37 (by decide) rfl (fun c6 => ?_) (fun c6 => ?_)
      · refine g_aload_n (n := 43) ok 0 dX6_readDigit_42 rfl rfl rfl ?_
        refine g_dup (n := 44) ok dX6_readDigit_43 rfl rfl ?_
        refine g_get (n := 47) (v := vi ((up I 52 15 0) 52 14)) (c := 6) (k := 14) ok dX6_readDigit_44 clsX6 (by decide) q692 rfl rfl rfl ?_
        refine g_top (up_k (by decide)) ?_
        refine g_iconst (n := 48) (v := 1) ok dX6_readDigit_47 rfl rfl ?_
        refine g_iadd (n := 49) ok dX6_readDigit_48 rfl ?_
        refine g_put (n := 52) (J := up (up I 52 15 0) 52 14 ((I 52 14) + 1)) (c := 6) (k := 14) ok dX6_readDigit_49 clsX6 tyX6 tyX6_ok nmX6 (by decide) q692 rfl rfl (fun _ => rfl) (fun _ => rfl) (Nat.le_of_ble_eq_true rfl) (fs_6_14 _ _ _) up_ne rfl ?_
        refine g_aload_n (n := 53) ok 0 dX6_readDigit_52 rfl rfl rfl ?_
        refine g_get (n := 56) (v := vr 61) (c := 6) (k := 12) ok dX6_readDigit_53 clsX6 (by decide) q690 rfl rfl rfl ?_
        refine g_aload_n (n := 57) ok 0 dX6_readDigit_56 rfl rfl rfl ?_
        refine g_get (n := 60) (v := vi ((up (up I 52 15 0) 52 14 ((I 52 14) + 1)) 52 14)) (c := 6) (k := 14) ok dX6_readDigit_57 clsX6 (by decide) q692 rfl rfl rfl ?_
        refine g_top up_v ?_
        refine g_iconst (n := 61) (v := 1) ok dX6_readDigit_60 rfl rfl ?_
        refine g_isub (n := 62) ok dX6_readDigit_61 rfl ?_
        refine g_top (show _ = nI (ix (I 52 14)) by rw [add_sub1]; exact vx hA) ?_
        refine g_iald (n := 63) (i := ix (I 52 14)) (L := 96) ok dX6_readDigit_62 rfl rfl rfl (by omega) rfl ?_
        refine g_top (up_ne2 (by decide)) ?_
        refine g_top (up_ne2 (by decide)) ?_
        refine g_bipush (n := 65) (v := 48) ok dX6_readDigit_63 rfl rfl ?_
        refine g_isub (n := 66) ok dX6_readDigit_65 rfl ?_
        exact g_iret ok hr dX6_readDigit_66
      · exact absurd (by decide) c6
    · rw [if_pos c3]
      refine g_iconst (n := 26) (v := 1) ok dX6_readDigit_25 rfl rfl ?_
      refine g_goto (tgt := 30) ok dX6_readDigit_26 (by decide) ?_
      refine g_put (n := 33) (J := up I 52 15 1) (c := 6) (k := 15) ok dX6_readDigit_30 clsX6 tyX6 tyX6_ok nmX6 (by decide) q693 rfl rfl (bnar (by decide)) (bfit (by decide)) (Nat.le_of_ble_eq_true rfl) (fs_6_15 _ _ _) up_ne rfl ?_
      refine g_aload_n (n := 34) ok 0 dX6_readDigit_33 rfl rfl rfl ?_
      refine g_get (n := 37) (v := vi ((up I 52 15 1) 52 15)) (c := 6) (k := 15) ok dX6_readDigit_34 clsX6 (by decide) q693 rfl rfl rfl ?_
      refine g_top up_v ?_
      refine g_if_eq (n := 40) (tgt := 42) ok dX6_readDigit_37 (by decide) rfl (fun c7 => ?_) (fun c7 => ?_)
      · exact absurd c7 (by decide)
      · refine g_iconst (n := 41) (v := 0) ok dX6_readDigit_40 rfl rfl ?_
        exact g_iret ok hr dX6_readDigit_41
theorem readDigit_hA {I : HI} (hA : vp_in (I 52 14) 97) (hm : vp_in (I 52 13) 97) : vp_in ((fX6_readDigit I).2 52 14) 97 := by
  unfold fX6_readDigit
  split
  · split
    · dsimp only
      rw [up_k (by omega)]
      exact hA
    · rename_i c
      dsimp only
      rw [up_v]
      exact at_inc hA hm (Or.inr ⟨rfl, here_in hA hm c⟩)
  · dsimp only
    rw [up_k (by omega)]
    exact hA
theorem readDigit_hm {I : HI} (hm : vp_in (I 52 13) 97) : vp_in ((fX6_readDigit I).2 52 13) 97 := by
  unfold fX6_readDigit
  split
  · split
    · dsimp only
      rw [up_k (by omega)]
      exact hm
    · dsimp only
      rw [up_k (by omega), up_k (by omega)]
      exact hm
  · dsimp only
    rw [up_k (by omega)]
    exact hm

noncomputable def fX6_readTwo (I : HI) : Int32 × HI :=
  ((10 * ((fX6_readDigit I).1)) + ((fX6_readDigit ((fX6_readDigit I).2)).1), ((fX6_readDigit ((fX6_readDigit I).2)).2))
theorem knX6_readTwo : Kn yX6_readTwo cX6_readTwo 2 (some .int) 0 := ⟨q806, q8, ⟨by decide, by decide⟩, by decide +kernel⟩
set_option maxHeartbeats 400000 in
set_option maxRecDepth 100000 in
theorem kX6_readTwo (I : HI) (hA : vp_in (I 52 14) 97) (hm : vp_in (I 52 13) 97) : Cx yX6_readTwo cX6_readTwo 2 (some .int) 2 45 [vr 52] I ((some (vi (((fX6_readTwo I).1))), (fX6_readTwo I).2)) := by
  refine Cx.mk (lv := [(0, vr 52)]) (by decide) (Nat.le_of_ble_eq_true rfl) rfl (fun E ok hr => ?_)
  rw [fX6_readTwo]
  refine g_aload_n (n := 1) ok 0 dX6_readTwo_0 rfl rfl rfl ?_
  refine g_callV (n := 4) (rest := []) (av := []) (j := 52) ok (kX6_readDigit I (by first | with_reducible assumption | omega) (by first | with_reducible assumption | omega)) knX6_readDigit q786 q788 qs28 clsX6 rfl dX6_readTwo_1 rfl rfl (Nat.le_of_ble_eq_true rfl) (by decide) (by decide) rfl ?_
  have hp1 : vp_in (((fX6_readDigit I).2) 52 14) 97 := readDigit_hA (by with_reducible assumption) (by with_reducible assumption)
  have hp2 : vp_in (((fX6_readDigit I).2) 52 13) 97 := readDigit_hm (by with_reducible assumption)
  refine g_istore_n (n := 5) (lv' := [(1, vi ((fX6_readDigit I).1)), (0, vr 52)]) ok dX6_readTwo_4 rfl (by decide) rfl rfl ?_
  refine g_bipush (n := 7) (v := 10) ok dX6_readTwo_5 rfl rfl ?_
  refine g_iload_n (n := 8) ok 0 dX6_readTwo_7 rfl rfl rfl ?_
  refine g_imul (n := 9) ok dX6_readTwo_8 rfl ?_
  refine g_aload_n (n := 10) ok 1 dX6_readTwo_9 rfl rfl rfl ?_
  refine g_callV (n := 13) (rest := [vi (10 * ((fX6_readDigit I).1))]) (av := []) (j := 52) ok (kX6_readDigit ((fX6_readDigit I).2) (by first | with_reducible assumption | omega) (by first | with_reducible assumption | omega)) knX6_readDigit q786 q788 qs28 clsX6 rfl dX6_readTwo_10 rfl rfl (Nat.le_of_ble_eq_true rfl) (by decide) (by decide) rfl ?_
  have hp3 : vp_in (((fX6_readDigit ((fX6_readDigit I).2)).2) 52 14) 97 := readDigit_hA (by with_reducible assumption) (by with_reducible assumption)
  have hp4 : vp_in (((fX6_readDigit ((fX6_readDigit I).2)).2) 52 13) 97 := readDigit_hm (by with_reducible assumption)
  refine g_iadd (n := 14) ok dX6_readTwo_13 rfl ?_
  exact g_iret ok hr dX6_readTwo_14
theorem readTwo_hA {I : HI} (hA : vp_in (I 52 14) 97) (hm : vp_in (I 52 13) 97) : vp_in ((fX6_readTwo I).2 52 14) 97 := readDigit_hA (readDigit_hA hA hm) (readDigit_hm hm)
theorem readTwo_hm {I : HI} (hm : vp_in (I 52 13) 97) : vp_in ((fX6_readTwo I).2 52 13) 97 := readDigit_hm (readDigit_hm hm)

noncomputable def fX6_readNumber_x7 (x7_1 : Int32) (J7 : HI) : Int32 × HI :=
  (x7_1, J7)
noncomputable def fX6_readNumber_b7 (i7 : Nat) (x7_1 : Int32) (J7 : HI) : (Int32 × HI) ⊕ (Int32 × HI) :=
  if J7 52 15 = 0 then (if fX6_in ((fX6_here J7).toInt64) 48 57 = 0 then Sum.inl (x7_1, J7) else Sum.inr ((10 * x7_1) + ((fX6_readDigit J7).1), ((fX6_readDigit J7).2))) else Sum.inl (x7_1, J7)
noncomputable def fX6_readNumber (I : HI) : Int32 × HI :=
  (fun (s : Int32 × HI) => fX6_readNumber_x7 s.1 s.2) (foE 2 1 (fun (i : Nat) (s : Int32 × HI) => fX6_readNumber_b7 i s.1 s.2) id ((fX6_readDigit I).1, ((fX6_readDigit I).2)))
theorem knX6_readNumber : Kn yX6_readNumber cX6_readNumber 3 (some .int) 0 := ⟨q802, q8, ⟨by decide, by decide⟩, by decide +kernel⟩
set_option maxHeartbeats 400000 in
set_option maxRecDepth 100000 in
theorem kX6_readNumber (I : HI) (hA : vp_in (I 52 14) 97) (hm : vp_in (I 52 13) 97) : Cx yX6_readNumber cX6_readNumber 3 (some .int) 2 45 [vr 52] I ((some (vi (((fX6_readNumber I).1))), (fX6_readNumber I).2)) := by
  refine Cx.mk (lv := [(0, vr 52)]) (by decide) (Nat.le_of_ble_eq_true rfl) rfl (fun E ok hr => ?_)
  rw [fX6_readNumber]
  refine g_aload_n (n := 1) ok 0 dX6_readNumber_0 rfl rfl rfl ?_
  refine g_callV (n := 4) (rest := []) (av := []) (j := 52) ok (kX6_readDigit I (by first | with_reducible assumption | omega) (by first | with_reducible assumption | omega)) knX6_readDigit q786 q788 qs28 clsX6 rfl dX6_readNumber_1 rfl rfl (Nat.le_of_ble_eq_true rfl) (by decide) (by decide) rfl ?_
  have hp1 : vp_in (((fX6_readDigit I).2) 52 14) 97 := readDigit_hA (by with_reducible assumption) (by with_reducible assumption)
  have hp2 : vp_in (((fX6_readDigit I).2) 52 13) 97 := readDigit_hm (by with_reducible assumption)
  refine g_istore_n (n := 5) (lv' := [(1, vi ((fX6_readDigit I).1)), (0, vr 52)]) ok dX6_readNumber_4 rfl (by decide) rfl rfl ?_
  refine g_iconst (n := 6) (v := 1) ok dX6_readNumber_5 rfl rfl ?_
  refine g_istore_n (n := 7) (lv' := [(2, vi 1), (1, vi ((fX6_readDigit I).1)), (0, vr 52)]) ok dX6_readNumber_6 rfl (by decide) rfl rfl ?_
  have X7 : ∀ (x7_1 : Int32) (J7 : HI) (hA3 : vp_in (J7 52 14) 97) (hm3 : vp_in (J7 52 13) 97), G E 3 ((some (vi (((fX6_readNumber_x7 x7_1 J7).1))), (fX6_readNumber_x7 x7_1 J7).2)) J7 52 [(1, vi x7_1)] [] := by
    intro x7_1 J7 hA3 hm3
    rw [fX6_readNumber_x7]
    refine g_iload_n (n := 53) ok 0 dX6_readNumber_52 rfl rfl rfl ?_
    exact g_iret ok hr dX6_readNumber_53
  have L7 : ∀ (n7 i7 : Nat) (x7_1 : Int32) (J7 : HI) (hA3 : vp_in (J7 52 14) 97) (hm3 : vp_in (J7 52 13) 97) (hi : i7 + n7 = 3), G E 3 ((some (vi ((((fun (s : Int32 × HI) => fX6_readNumber_x7 s.1 s.2) (foE n7 i7 (fun (i : Nat) (s : Int32 × HI) => fX6_readNumber_b7 i s.1 s.2) id (x7_1, J7))).1))), ((fun (s : Int32 × HI) => fX6_readNumber_x7 s.1 s.2) (foE n7 i7 (fun (i : Nat) (s : Int32 × HI) => fX6_readNumber_b7 i s.1 s.2) id (x7_1, J7))).2)) J7 7 [(2, vi (nI i7)), (1, vi x7_1), (0, vr 52)] [] := by
    intro n7
    induction n7 with
    | zero =>
      intro i7 x7_1 J7 hA3 hm3 hi
      rw [foE_0]
      refine g_iload_n (n := 8) ok 0 dX6_readNumber_7 rfl rfl rfl ?_
      refine g_iconst (n := 9) (v := 3) ok dX6_readNumber_8 rfl rfl ?_
      refine g_icmp_ge (n := 12) (tgt := 52) ok dX6_readNumber_9 (by decide) rfl (fun c => ?_) (fun c => absurd (nle (a := 3) (b := i7) rfl rfl (by omega) (by omega)) c)
      refine g_sub [1] rfl ?_
      exact X7 _ _ hA3 hm3
    | succ n7 ih =>
      intro i7 x7_1 J7 hA3 hm3 hi
      refine g_iload_n (n := 8) ok 0 dX6_readNumber_7 rfl rfl rfl ?_
      refine g_iconst (n := 9) (v := 3) ok dX6_readNumber_8 rfl rfl ?_
      refine g_icmp_ge (n := 12) (tgt := 52) ok dX6_readNumber_9 (by decide) rfl (fun c => absurd c (nnle (a := 3) (b := i7) rfl rfl (by omega) (by omega))) (fun c => ?_)
      rw [foE_s]
      show G E 3 ((some (vi ((((fun (s : Int32 × HI) => fX6_readNumber_x7 s.1 s.2) (Sum.elim id (fun (s : Int32 × HI) => foE n7 (i7 + 1) (fun (i : Nat) (s : Int32 × HI) => fX6_readNumber_b7 i s.1 s.2) id s) (fX6_readNumber_b7 i7 x7_1 J7))).1))), ((fun (s : Int32 × HI) => fX6_readNumber_x7 s.1 s.2) (Sum.elim id (fun (s : Int32 × HI) => foE n7 (i7 + 1) (fun (i : Nat) (s : Int32 × HI) => fX6_readNumber_b7 i s.1 s.2) id s) (fX6_readNumber_b7 i7 x7_1 J7))).2)) _ _ _ _
      rw [fX6_readNumber_b7]
      refine g_aload_n (n := 13) ok 2 dX6_readNumber_12 rfl rfl rfl ?_
      refine g_get (n := 16) (v := vi (J7 52 15)) (c := 6) (k := 15) ok dX6_readNumber_13 clsX6 (by decide) q693 rfl rfl rfl ?_
      refine g_if_ne (n := 19) (tgt := 52) ok dX6_readNumber_16 (by decide) rfl (fun c3 => ?_) (fun c3 => ?_)
      · rw [if_neg c3]
        refine g_sub [1] rfl ?_
        exact X7 x7_1 J7 hA3 hm3
      · rw [if_pos c3]
        refine g_aload_n (n := 20) ok 2 dX6_readNumber_19 rfl rfl rfl ?_
        refine g_callV (n := 23) (rest := []) (av := []) (j := 52) ok (kX6_here J7 (by first | with_reducible assumption | omega) (by first | with_reducible assumption | omega)) knX6_here q782 q784 qs27 clsX6 rfl dX6_readNumber_20 rfl rfl (Nat.le_of_ble_eq_true rfl) (by decide) (by decide) rfl ?_
        refine g_i2l (n := 24) ok dX6_readNumber_23 rfl ?_
        refine g_ldc2_w (n := 27) ok dX6_readNumber_24 q790 rfl ?_
        refine g_ldc2_w (n := 30) ok dX6_readNumber_27 q791 rfl ?_
        refine g_callS (n := 33) (rest := []) (av := [vl ((fX6_here J7).toInt64), vl 48, vl 57]) ok (kX6_in J7 ((fX6_here J7).toInt64) 48 57) knX6_in q792 q793 dX6_readNumber_30 rfl rfl (Nat.le_of_ble_eq_true rfl) (by decide) (by decide) rfl ?_
        refine g_if_eq (n := 36) (tgt := 52) ok dX6_readNumber_33 (by decide) rfl (fun c4 => ?_) (fun c4 => ?_)
        · rw [if_pos c4]
          refine g_sub [1] rfl ?_
          exact X7 x7_1 J7 hA3 hm3
        · rw [if_neg c4]
          have ha5 : vp_in (fX6_here J7) 58 := in6_in2 (a := 48) (b := 57) c4 (by omega) (by omega)
          have ha5b := vb ha5
          have hx6 := in6_ge (a := 48) (b := 57) c4 (by omega) (by omega)
          refine g_bipush (n := 38) (v := 10) ok dX6_readNumber_36 rfl rfl ?_
          refine g_iload_n (n := 39) ok 1 dX6_readNumber_38 rfl rfl rfl ?_
          refine g_imul (n := 40) ok dX6_readNumber_39 rfl ?_
          refine g_aload_n (n := 41) ok 2 dX6_readNumber_40 rfl rfl rfl ?_
          refine g_callV (n := 44) (rest := [vi (10 * x7_1)]) (av := []) (j := 52) ok (kX6_readDigit J7 (by first | with_reducible assumption | omega) (by first | with_reducible assumption | omega)) knX6_readDigit q786 q788 qs28 clsX6 rfl dX6_readNumber_41 rfl rfl (Nat.le_of_ble_eq_true rfl) (by decide) (by decide) rfl ?_
          have hp7 : vp_in (((fX6_readDigit J7).2) 52 14) 97 := readDigit_hA (by with_reducible assumption) (by with_reducible assumption)
          have hp8 : vp_in (((fX6_readDigit J7).2) 52 13) 97 := readDigit_hm (by with_reducible assumption)
          refine g_iadd (n := 45) ok dX6_readNumber_44 rfl ?_
          refine g_istore_n (n := 46) (lv' := [(1, vi ((10 * x7_1) + ((fX6_readDigit J7).1))), (2, vi (nI i7)), (0, vr 52)]) ok dX6_readNumber_45 rfl (by decide) rfl rfl ?_
          refine g_iinc (n := 49) (v := nI (i7 + 1)) (lv' := [(2, vi (nI (i7 + 1))), (1, vi ((10 * x7_1) + ((fX6_readDigit J7).1))), (0, vr 52)]) ok 1 dX6_readNumber_46 rfl (iinc_n (a := i7) rfl) (by decide) rfl rfl ?_
          refine g_goto (tgt := 7) ok dX6_readNumber_49 (by decide) ?_
          exact ih (i7 + 1) ((10 * x7_1) + ((fX6_readDigit J7).1)) _ (by with_reducible assumption) (by with_reducible assumption) (by omega)
  exact L7 2 1 ((fX6_readDigit I).1) _ (by with_reducible assumption) (by with_reducible assumption) (by omega)
theorem readNumber_hA {I : HI} (hA : vp_in (I 52 14) 97) (hm : vp_in (I 52 13) 97) : vp_in ((fX6_readNumber I).2 52 14) 97 := by
  have h2 := foE_inv (fun s : Int32 × HI => vp_in (s.2 52 14) 97 ∧ vp_in (s.2 52 13) 97) (fun s : Int32 × HI => vp_in (s.2 52 14) 97 ∧ vp_in (s.2 52 13) 97) (fun (i : Nat) (s : Int32 × HI) => fX6_readNumber_b7 i s.1 s.2) id (fun i s r hs hr => by
    try dsimp only at hr
    unfold fX6_readNumber_b7 at hr
    split at hr
    · split at hr
      · cases hr; exact hs
      · cases hr
    · cases hr; exact hs) (fun i s r hs hr => by
    try dsimp only at hr
    unfold fX6_readNumber_b7 at hr
    split at hr
    · split at hr
      · cases hr
      · cases hr; exact ⟨readDigit_hA hs.1 hs.2, readDigit_hm hs.2⟩
    · cases hr) (fun s hs => hs) 2 1 ((fX6_readDigit I).1, ((fX6_readDigit I).2)) ⟨readDigit_hA hA hm, readDigit_hm hm⟩
  unfold fX6_readNumber fX6_readNumber_x7
  exact h2.1
theorem readNumber_hm {I : HI} (hm : vp_in (I 52 13) 97) : vp_in ((fX6_readNumber I).2 52 13) 97 := by
  have h2 := foE_inv (fun s : Int32 × HI => vp_in (s.2 52 13) 97) (fun s : Int32 × HI => vp_in (s.2 52 13) 97) (fun (i : Nat) (s : Int32 × HI) => fX6_readNumber_b7 i s.1 s.2) id (fun i s r hs hr => by
    try dsimp only at hr
    unfold fX6_readNumber_b7 at hr
    split at hr
    · split at hr
      · cases hr; exact hs
      · cases hr
    · cases hr; exact hs) (fun i s r hs hr => by
    try dsimp only at hr
    unfold fX6_readNumber_b7 at hr
    split at hr
    · split at hr
      · cases hr
      · cases hr; exact readDigit_hm hs
    · cases hr) (fun s hs => hs) 2 1 ((fX6_readDigit I).1, ((fX6_readDigit I).2)) (readDigit_hm hm)
  unfold fX6_readNumber fX6_readNumber_x7
  exact h2

noncomputable def fX6_take (I : HI) (c : Int32) : HI :=
  if I 52 15 = 0 then (if fX6_here I = c then (up (up I 52 15 0) 52 14 ((I 52 14) + 1)) else (up (up I 52 15 1) 52 14 ((I 52 14) + 0))) else (up (up I 52 15 1) 52 14 ((I 52 14) + 0))
theorem knX6_take : Kn yX6_take cX6_take 2 none 1 := ⟨q798, q8, ⟨by decide, by decide⟩, by decide +kernel⟩
set_option maxHeartbeats 400000 in
set_option maxRecDepth 100000 in
theorem kX6_take (I : HI) (c : Int32) (hA : vp_in (I 52 14) 97) (hm : vp_in (I 52 13) 97) (hc : ¬ c = (-1)) : Cx yX6_take cX6_take 2 none 1 20 [vr 52, vi c] I ((none, fX6_take I c)) := by
  refine Cx.mk (lv := [(0, vr 52), (1, vi c)]) (by decide) (Nat.le_of_ble_eq_true rfl) rfl (fun E ok hr => ?_)
  rw [fX6_take]
  refine g_aload_n (n := 1) ok 0 dX6_take_0 rfl rfl rfl ?_
  refine g_aload_n (n := 2) ok 0 dX6_take_1 rfl rfl rfl ?_
  refine g_get (n := 5) (v := vi (I 52 15)) (c := 6) (k := 15) ok dX6_take_2 clsX6 (by decide) q693 rfl rfl rfl ?_
  refine g_if_ne (n := 8) (tgt := 16) ok dX6_take_5 (by decide) rfl (fun c1 => ?_) (fun c1 => ?_)
  · rw [if_neg c1]
    refine g_iconst (n := 17) (v := 1) ok dX6_take_16 rfl rfl ?_
    refine g_goto (tgt := 21) ok dX6_take_17 (by decide) ?_
    refine g_put (n := 24) (J := up I 52 15 1) (c := 6) (k := 15) ok dX6_take_21 clsX6 tyX6 tyX6_ok nmX6 (by decide) q693 rfl rfl (bnar (by decide)) (bfit (by decide)) (Nat.le_of_ble_eq_true rfl) (fs_6_15 _ _ _) up_ne rfl ?_
    refine g_aload_n (n := 25) ok 0 dX6_take_24 rfl rfl rfl ?_
    refine g_dup (n := 26) ok dX6_take_25 rfl rfl ?_
    refine g_get (n := 29) (v := vi ((up I 52 15 1) 52 14)) (c := 6) (k := 14) ok dX6_take_26 clsX6 (by decide) q692 rfl rfl rfl ?_
    refine g_top (up_k (by decide)) ?_
    refine g_aload_n (n := 30) ok 0 dX6_take_29 rfl rfl rfl ?_
    refine g_get (n := 33) (v := vi ((up I 52 15 1) 52 15)) (c := 6) (k := 15) ok dX6_take_30 clsX6 (by decide) q693 rfl rfl rfl ?_
    refine g_top up_v ?_
    refine g_if_eq (n := 36) (tgt := 40) ok dX6_take_33 (by decide) rfl (fun c2 => ?_) (fun c2 => ?_)
    · exact absurd c2 (by decide)
    · refine g_iconst (n := 37) (v := 0) ok dX6_take_36 rfl rfl ?_
      refine g_goto (tgt := 41) ok dX6_take_37 (by decide) ?_
      refine g_iadd (n := 42) ok dX6_take_41 rfl ?_
      refine g_put (n := 45) (J := up (up I 52 15 1) 52 14 ((I 52 14) + 0)) (c := 6) (k := 14) ok dX6_take_42 clsX6 tyX6 tyX6_ok nmX6 (by decide) q692 rfl rfl (fun _ => rfl) (fun _ => rfl) (Nat.le_of_ble_eq_true rfl) (fs_6_14 _ _ _) up_ne rfl ?_
      exact g_vret ok hr dX6_take_45
  · rw [if_pos c1]
    refine g_aload_n (n := 9) ok 0 dX6_take_8 rfl rfl rfl ?_
    refine g_callV (n := 12) (rest := [vr 52]) (av := []) (j := 52) ok (kX6_here I (by first | with_reducible assumption | omega) (by first | with_reducible assumption | omega)) knX6_here q782 q784 qs27 clsX6 rfl dX6_take_9 rfl rfl (Nat.le_of_ble_eq_true rfl) (by decide) (by decide) rfl ?_
    refine g_iload_n (n := 13) ok 1 dX6_take_12 rfl rfl rfl ?_
    refine g_icmp_eq (n := 16) (tgt := 20) ok dX6_take_13 (by decide) rfl (fun c3 => ?_) (fun c3 => ?_)
    · rw [if_pos c3]
      refine g_iconst (n := 21) (v := 0) ok dX6_take_20 rfl rfl ?_
      refine g_put (n := 24) (J := up I 52 15 0) (c := 6) (k := 15) ok dX6_take_21 clsX6 tyX6 tyX6_ok nmX6 (by decide) q693 rfl rfl (bnar (by decide)) (bfit (by decide)) (Nat.le_of_ble_eq_true rfl) (fs_6_15 _ _ _) up_ne rfl ?_
      refine g_aload_n (n := 25) ok 0 dX6_take_24 rfl rfl rfl ?_
      refine g_dup (n := 26) ok dX6_take_25 rfl rfl ?_
      refine g_get (n := 29) (v := vi ((up I 52 15 0) 52 14)) (c := 6) (k := 14) ok dX6_take_26 clsX6 (by decide) q692 rfl rfl rfl ?_
      refine g_top (up_k (by decide)) ?_
      refine g_aload_n (n := 30) ok 0 dX6_take_29 rfl rfl rfl ?_
      refine g_get (n := 33) (v := vi ((up I 52 15 0) 52 15)) (c := 6) (k := 15) ok dX6_take_30 clsX6 (by decide) q693 rfl rfl rfl ?_
      refine g_top up_v ?_
      refine g_if_eq (n := 36) (tgt := 40) ok dX6_take_33 (by decide) rfl (fun c4 => ?_) (fun c4 => ?_)
      · refine g_iconst (n := 41) (v := 1) ok dX6_take_40 rfl rfl ?_
        refine g_iadd (n := 42) ok dX6_take_41 rfl ?_
        refine g_put (n := 45) (J := up (up I 52 15 0) 52 14 ((I 52 14) + 1)) (c := 6) (k := 14) ok dX6_take_42 clsX6 tyX6 tyX6_ok nmX6 (by decide) q692 rfl rfl (fun _ => rfl) (fun _ => rfl) (Nat.le_of_ble_eq_true rfl) (fs_6_14 _ _ _) up_ne rfl ?_
        exact g_vret ok hr dX6_take_45
      · exact absurd (by decide) c4
    · rw [if_neg c3]
      refine g_iconst (n := 17) (v := 1) ok dX6_take_16 rfl rfl ?_
      refine g_goto (tgt := 21) ok dX6_take_17 (by decide) ?_
      refine g_put (n := 24) (J := up I 52 15 1) (c := 6) (k := 15) ok dX6_take_21 clsX6 tyX6 tyX6_ok nmX6 (by decide) q693 rfl rfl (bnar (by decide)) (bfit (by decide)) (Nat.le_of_ble_eq_true rfl) (fs_6_15 _ _ _) up_ne rfl ?_
      refine g_aload_n (n := 25) ok 0 dX6_take_24 rfl rfl rfl ?_
      refine g_dup (n := 26) ok dX6_take_25 rfl rfl ?_
      refine g_get (n := 29) (v := vi ((up I 52 15 1) 52 14)) (c := 6) (k := 14) ok dX6_take_26 clsX6 (by decide) q692 rfl rfl rfl ?_
      refine g_top (up_k (by decide)) ?_
      refine g_aload_n (n := 30) ok 0 dX6_take_29 rfl rfl rfl ?_
      refine g_get (n := 33) (v := vi ((up I 52 15 1) 52 15)) (c := 6) (k := 15) ok dX6_take_30 clsX6 (by decide) q693 rfl rfl rfl ?_
      refine g_top up_v ?_
      refine g_if_eq (n := 36) (tgt := 40) ok dX6_take_33 (by decide) rfl (fun c5 => ?_) (fun c5 => ?_)
      · exact absurd c5 (by decide)
      · refine g_iconst (n := 37) (v := 0) ok dX6_take_36 rfl rfl ?_
        refine g_goto (tgt := 41) ok dX6_take_37 (by decide) ?_
        refine g_iadd (n := 42) ok dX6_take_41 rfl ?_
        refine g_put (n := 45) (J := up (up I 52 15 1) 52 14 ((I 52 14) + 0)) (c := 6) (k := 14) ok dX6_take_42 clsX6 tyX6 tyX6_ok nmX6 (by decide) q692 rfl rfl (fun _ => rfl) (fun _ => rfl) (Nat.le_of_ble_eq_true rfl) (fs_6_14 _ _ _) up_ne rfl ?_
        exact g_vret ok hr dX6_take_45
theorem take6_hA {I : HI} {c : Int32} (hA : vp_in (I 52 14) 97) (hm : vp_in (I 52 13) 97) (hc : ¬ c = (-1)) : vp_in ((fX6_take I c) 52 14) 97 := by
  unfold fX6_take
  repeat' split
  all_goals first | (rw [up_v]; exact at_inc hA hm (Or.inl rfl)) | (rename_i c1; rw [up_v]; exact at_inc hA hm (Or.inr ⟨rfl, here_eq hA hm c1 hc⟩))
theorem take6_hm {I : HI} {c : Int32} (hm : vp_in (I 52 13) 97) : vp_in ((fX6_take I c) 52 13) 97 := by
  unfold fX6_take
  repeat' split
  all_goals (rw [up_k (by omega), up_k (by omega)]; exact hm)

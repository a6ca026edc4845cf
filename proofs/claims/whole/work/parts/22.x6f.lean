noncomputable def fX6_mark_c5 (judge : Int32) (t : Int32) (K5 : HI) : Int32 × HI :=
  if fX6_in judge.toInt64 0 4 = 0 then ((fX6_refuse K5 (-2)).1, ((fX6_refuse K5 (-2)).2)) else (if fX6_isTrace K5 t = 0 then ((fX6_refuse K5 (-1)).1, ((fX6_refuse K5 (-1)).2)) else (fX6_markBy K5 judge (ix t), K5))
noncomputable def fX6_mark (I : HI) (judge : Int32) (t : Int32) : Int32 × HI :=
  fX6_mark_c5 judge t (up I 52 10 0)
theorem knX6_mark : Kn yX6_mark cX6_mark 3 (some .int) 2 := ⟨q1035, q8, ⟨by decide, by decide⟩, by decide +kernel⟩
set_option maxHeartbeats 400000 in
set_option maxRecDepth 100000 in
theorem kX6_mark (I : HI) (judge : Int32) (t : Int32) (hd : vp_in (I 52 5) 7) (hF : ∀ n, n < 27 → vp_in (I 56 n) 2) : Cx yX6_mark cX6_mark 3 (some .int) 3 70 [vr 52, vi judge, vi t] I ((some (vi (((fX6_mark I judge t).1))), (fX6_mark I judge t).2)) := by
  refine Cx.mk (lv := [(0, vr 52), (1, vi judge), (2, vi t)]) (by decide) (Nat.le_of_ble_eq_true rfl) rfl (fun E ok hr => ?_)
  rw [fX6_mark]
  refine g_aload_n (n := 1) ok 0 dX6_mark_0 rfl rfl rfl ?_
  refine g_iconst (n := 2) (v := 0) ok dX6_mark_1 rfl rfl ?_
  refine g_put (n := 5) (J := up I 52 10 0) (c := 6) (k := 10) ok dX6_mark_2 clsX6 tyX6 tyX6_ok nmX6 (by decide) q688 rfl rfl (fun _ => rfl) (fun _ => rfl) (Nat.le_of_ble_eq_true rfl) (fs_6_10 _ _ _) up_ne rfl ?_
  have C5_10 : ∀ (K5 : HI) (hd2 : vp_in (K5 52 5) 7) (hF2 : ∀ n, n < 27 → vp_in (K5 56 n) 2), G E 3 ((some (vi (((fX6_mark_c5 judge t K5).1))), (fX6_mark_c5 judge t K5).2)) K5 5 [(0, vr 52), (1, vi judge), (2, vi t)] [] := by
    intro K5 hd2 hF2
    rw [fX6_mark_c5]
    have hd3 := vb hd2
    refine g_iload_n (n := 6) ok 1 dX6_mark_5 rfl rfl rfl ?_
    refine g_i2l (n := 7) ok dX6_mark_6 rfl ?_
    refine g_lconst (n := 8) (v := 0) ok dX6_mark_7 rfl rfl ?_
    refine g_ldc2_w (n := 11) ok dX6_mark_8 q823 rfl ?_
    refine g_callS (n := 14) (rest := []) (av := [vl judge.toInt64, vl 0, vl 4]) ok (kX6_in K5 judge.toInt64 0 4) knX6_in q792 q793 dX6_mark_11 rfl rfl (Nat.le_of_ble_eq_true rfl) (by decide) (by decide) rfl ?_
    refine g_if_eq (n := 17) (tgt := 25) ok dX6_mark_14 (by decide) rfl (fun c4 => ?_) (fun c4 => ?_)
    · rw [if_pos c4]
      refine g_aload_n (n := 26) ok 0 dX6_mark_25 rfl rfl rfl ?_
      refine g_iload_n (n := 27) ok 1 dX6_mark_26 rfl rfl rfl ?_
      refine g_i2l (n := 28) ok dX6_mark_27 rfl ?_
      refine g_lconst (n := 29) (v := 0) ok dX6_mark_28 rfl rfl ?_
      refine g_ldc2_w (n := 32) ok dX6_mark_29 q823 rfl ?_
      refine g_callS (n := 35) (rest := [vr 52]) (av := [vl judge.toInt64, vl 0, vl 4]) ok (kX6_in K5 judge.toInt64 0 4) knX6_in q792 q793 dX6_mark_32 rfl rfl (Nat.le_of_ble_eq_true rfl) (by decide) (by decide) rfl ?_
      refine g_if_eq (n := 38) (tgt := 42) ok dX6_mark_35 (by decide) rfl (fun c5 => ?_) (fun c5 => ?_)
      · refine g_bipush (n := 44) (v := -2) ok dX6_mark_42 rfl rfl ?_
        refine g_callV (n := 47) (rest := []) (av := [vi (-2)]) (j := 52) ok (kX6_refuse K5 (-2) (vp_b (by decide +kernel))) knX6_refuse q770 q772 qs25 clsX6 rfl dX6_mark_44 rfl rfl (Nat.le_of_ble_eq_true rfl) (by decide) (by decide) rfl ?_
        exact g_iret ok hr dX6_mark_47
      · exact absurd c4 c5
    · rw [if_neg c4]
      have ha6 : vp_in judge 5 := in6_in (b := 4) c4 (by omega)
      have ha6b := vb ha6
      refine g_aload_n (n := 18) ok 0 dX6_mark_17 rfl rfl rfl ?_
      refine g_iload_n (n := 19) ok 2 dX6_mark_18 rfl rfl rfl ?_
      refine g_callV (n := 22) (rest := []) (av := [vi t]) (j := 52) ok (kX6_isTrace K5 t) knX6_isTrace q919 q921 qs45 clsX6 rfl dX6_mark_19 rfl rfl (Nat.le_of_ble_eq_true rfl) (by decide) (by decide) rfl ?_
      refine g_if_ne (n := 25) (tgt := 48) ok dX6_mark_22 (by decide) rfl (fun c7 => ?_) (fun c7 => ?_)
      · rw [if_neg c7]
        have ha8 : vp_in t 6 := isTrace6_in (by with_reducible assumption) c7
        have ha8b := vb ha8
        refine g_aload_n (n := 49) ok 0 dX6_mark_48 rfl rfl rfl ?_
        refine g_iload_n (n := 50) ok 1 dX6_mark_49 rfl rfl rfl ?_
        refine g_iload_n (n := 51) ok 2 dX6_mark_50 rfl rfl rfl ?_
        refine g_callV (n := 54) (rest := []) (av := [vi judge, vi (nI (ix t))]) (j := 52) ok (kX6_markBy K5 judge (ix t) (by first | with_reducible assumption | omega) hF2) knX6_markBy q1036 q1038 qs58 clsX6 rfl dX6_mark_51 (lcons (congrArg vi (vx ha8)) (lcons rfl (lcons rfl rfl))) rfl (Nat.le_of_ble_eq_true rfl) (by decide) (by decide) rfl ?_
        exact g_iret ok hr dX6_mark_54
      · rw [if_pos c7]
        refine g_aload_n (n := 26) ok 0 dX6_mark_25 rfl rfl rfl ?_
        refine g_iload_n (n := 27) ok 1 dX6_mark_26 rfl rfl rfl ?_
        refine g_i2l (n := 28) ok dX6_mark_27 rfl ?_
        refine g_lconst (n := 29) (v := 0) ok dX6_mark_28 rfl rfl ?_
        refine g_ldc2_w (n := 32) ok dX6_mark_29 q823 rfl ?_
        refine g_callS (n := 35) (rest := [vr 52]) (av := [vl judge.toInt64, vl 0, vl 4]) ok (kX6_in K5 judge.toInt64 0 4) knX6_in q792 q793 dX6_mark_32 rfl rfl (Nat.le_of_ble_eq_true rfl) (by decide) (by decide) rfl ?_
        refine g_if_eq (n := 38) (tgt := 42) ok dX6_mark_35 (by decide) rfl (fun c9 => ?_) (fun c9 => ?_)
        · exact absurd c9 c4
        · refine g_iconst (n := 39) (v := -1) ok dX6_mark_38 rfl rfl ?_
          refine g_goto (tgt := 44) ok dX6_mark_39 (by decide) ?_
          refine g_callV (n := 47) (rest := []) (av := [vi (-1)]) (j := 52) ok (kX6_refuse K5 (-1) (vp_b (by decide +kernel))) knX6_refuse q770 q772 qs25 clsX6 rfl dX6_mark_44 rfl rfl (Nat.le_of_ble_eq_true rfl) (by decide) (by decide) rfl ?_
          exact g_iret ok hr dX6_mark_47
  exact C5_10 _ (by rw [up_k (by omega)]; exact hd) (fun n hn => by rw [up_ne2 (by omega)]; exact hF n hn)

noncomputable def fX6_fits_x27 (K5 : HI) (x27_1 : Int32) : Int32 × HI :=
  (x27_1, K5)
noncomputable def fX6_fits_x37 (x27_1 : Int32) (i27 : Nat) (x37_3 : Int32) : Int32 :=
  if x37_3 = 0 then x27_1 ||| 0 else x27_1 ||| (1 <<< ((nI i27) &&& 31))
noncomputable def fX6_fits_b37 (K5 : HI) (i27 : Nat) (i37 : Nat) (x37_3 : Int32) : Int32 :=
  if x37_3 = 0 then 0 else (if fX6_markBy K5 (nI i27) i37 = K5 67 i37 then 1 else 0)
noncomputable def fX6_fits_b27 (K5 : HI) (i27 : Nat) (x27_1 : Int32) : Int32 :=
  fX6_fits_x37 x27_1 i27 (fo (ix (K5 52 5)) 0 (fun (i : Nat) (s : Int32) => fX6_fits_b37 K5 i27 i s) 1)
noncomputable def fX6_fits_c5 (K5 : HI) : Int32 × HI :=
  if K5 52 27 = K5 52 5 then fX6_fits_x27 K5 (fo 5 0 (fun (i : Nat) (s : Int32) => fX6_fits_b27 K5 i s) 0) else ((fX6_refuse K5 (-3)).1, ((fX6_refuse K5 (-3)).2))
noncomputable def fX6_fits (I : HI) : Int32 × HI :=
  fX6_fits_c5 (up I 52 10 0)
theorem knX6_fits : Kn yX6_fits cX6_fits 5 (some .int) 0 := ⟨q1046, q8, ⟨by decide, by decide⟩, by decide +kernel⟩
set_option maxHeartbeats 400000 in
set_option maxRecDepth 100000 in
theorem kX6_fits (I : HI) (hd : vp_in (I 52 5) 7) (hF : ∀ n, n < 27 → vp_in (I 56 n) 2) (hr9 : vp_in (I 52 27) 13) : Cx yX6_fits cX6_fits 5 (some .int) 3 70 [vr 52] I ((some (vi (((fX6_fits I).1))), (fX6_fits I).2)) := by
  refine Cx.mk (lv := [(0, vr 52)]) (by decide) (Nat.le_of_ble_eq_true rfl) rfl (fun E ok hr => ?_)
  rw [fX6_fits]
  refine g_aload_n (n := 1) ok 0 dX6_fits_0 rfl rfl rfl ?_
  refine g_iconst (n := 2) (v := 0) ok dX6_fits_1 rfl rfl ?_
  refine g_put (n := 5) (J := up I 52 10 0) (c := 6) (k := 10) ok dX6_fits_2 clsX6 tyX6 tyX6_ok nmX6 (by decide) q688 rfl rfl (fun _ => rfl) (fun _ => rfl) (Nat.le_of_ble_eq_true rfl) (fs_6_10 _ _ _) up_ne rfl ?_
  have C5_6 : ∀ (K5 : HI) (hd2 : vp_in (K5 52 5) 7) (hF2 : ∀ n, n < 27 → vp_in (K5 56 n) 2) (hr92 : vp_in (K5 52 27) 13), G E 5 ((some (vi (((fX6_fits_c5 K5).1))), (fX6_fits_c5 K5).2)) K5 5 [(0, vr 52)] [] := by
    intro K5 hd2 hF2 hr92
    rw [fX6_fits_c5]
    have hd3 := vb hd2
    have hr93 := vb hr92
    refine g_aload_n (n := 6) ok 0 dX6_fits_5 rfl rfl rfl ?_
    refine g_get (n := 9) (v := vi (K5 52 27)) (c := 6) (k := 27) ok dX6_fits_6 clsX6 (by decide) q705 rfl rfl rfl ?_
    refine g_aload_n (n := 10) ok 0 dX6_fits_9 rfl rfl rfl ?_
    refine g_get (n := 13) (v := vi (K5 52 5)) (c := 6) (k := 5) ok dX6_fits_10 clsX6 (by decide) q683 rfl rfl rfl ?_
    refine g_icmp_eq (n := 16) (tgt := 23) ok dX6_fits_13 (by decide) rfl (fun c2 => ?_) (fun c2 => ?_)
    · rw [if_pos c2]
      refine g_iconst (n := 24) (v := 0) ok dX6_fits_23 rfl rfl ?_
      refine g_istore_n (n := 25) (lv' := [(1, vi 0), (0, vr 52)]) ok dX6_fits_24 rfl (by decide) rfl rfl ?_
      refine g_iconst (n := 26) (v := 0) ok dX6_fits_25 rfl rfl ?_
      refine g_istore_n (n := 27) (lv' := [(2, vi 0), (1, vi 0), (0, vr 52)]) ok dX6_fits_26 rfl (by decide) rfl rfl ?_
      have X27 : ∀ (x27_1 : Int32), G E 5 ((some (vi (((fX6_fits_x27 K5 x27_1).1))), (fX6_fits_x27 K5 x27_1).2)) K5 99 [(1, vi x27_1)] [] := by
        intro x27_1
        rw [fX6_fits_x27]
        refine g_iload_n (n := 100) ok 0 dX6_fits_99 rfl rfl rfl ?_
        exact g_iret ok hr dX6_fits_100
      have L27 : ∀ (n27 i27 : Nat) (x27_1 : Int32) (hi : i27 + n27 = 5), G E 5 ((some (vi (((fX6_fits_x27 K5 (fo n27 i27 (fun (i : Nat) (s : Int32) => fX6_fits_b27 K5 i s) x27_1)).1))), (fX6_fits_x27 K5 (fo n27 i27 (fun (i : Nat) (s : Int32) => fX6_fits_b27 K5 i s) x27_1)).2)) K5 27 [(2, vi (nI i27)), (1, vi x27_1), (0, vr 52)] [] := by
        intro n27
        induction n27 with
        | zero =>
          intro i27 x27_1 hi
          rw [fo_0]
          refine g_iload_n (n := 28) ok 0 dX6_fits_27 rfl rfl rfl ?_
          refine g_iconst (n := 29) (v := 5) ok dX6_fits_28 rfl rfl ?_
          refine g_icmp_ge (n := 32) (tgt := 99) ok dX6_fits_29 (by decide) rfl (fun c => ?_) (fun c => absurd (nle (a := 5) (b := i27) rfl rfl (by omega) (by omega)) c)
          refine g_sub [1] rfl ?_
          exact X27 _
        | succ n27 ih =>
          intro i27 x27_1 hi
          refine g_iload_n (n := 28) ok 0 dX6_fits_27 rfl rfl rfl ?_
          refine g_iconst (n := 29) (v := 5) ok dX6_fits_28 rfl rfl ?_
          refine g_icmp_ge (n := 32) (tgt := 99) ok dX6_fits_29 (by decide) rfl (fun c => absurd c (nnle (a := 5) (b := i27) rfl rfl (by omega) (by omega))) (fun c => ?_)
          rw [fo_s]
          show G E 5 ((some (vi (((fX6_fits_x27 K5 (fo n27 (i27 + 1) (fun (i : Nat) (s : Int32) => fX6_fits_b27 K5 i s) (fX6_fits_b27 K5 i27 x27_1))).1))), (fX6_fits_x27 K5 (fo n27 (i27 + 1) (fun (i : Nat) (s : Int32) => fX6_fits_b27 K5 i s) (fX6_fits_b27 K5 i27 x27_1))).2)) _ _ _ _
          rw [fX6_fits_b27]
          refine g_iconst (n := 33) (v := 1) ok dX6_fits_32 rfl rfl ?_
          refine g_istore_n (n := 34) (lv' := [(3, vi 1), (2, vi (nI i27)), (1, vi x27_1), (0, vr 52)]) ok dX6_fits_33 rfl (by decide) rfl rfl ?_
          refine g_iconst (n := 35) (v := 0) ok dX6_fits_34 rfl rfl ?_
          refine g_istore (n := 37) (lv' := [(4, vi 0), (3, vi 1), (2, vi (nI i27)), (1, vi x27_1), (0, vr 52)]) ok dX6_fits_35 (by decide) rfl rfl ?_
          have X37 : ∀ (x37_3 : Int32), G E 5 ((some (vi (((fX6_fits_x27 K5 (fo n27 (i27 + 1) (fun (i : Nat) (s : Int32) => fX6_fits_b27 K5 i s) (fX6_fits_x37 x27_1 i27 x37_3))).1))), (fX6_fits_x27 K5 (fo n27 (i27 + 1) (fun (i : Nat) (s : Int32) => fX6_fits_b27 K5 i s) (fX6_fits_x37 x27_1 i27 x37_3))).2)) K5 79 [(3, vi x37_3), (2, vi (nI i27)), (1, vi x27_1), (0, vr 52)] [] := by
            intro x37_3
            rw [fX6_fits_x37]
            refine g_iload_n (n := 80) ok 2 dX6_fits_79 rfl rfl rfl ?_
            refine g_iload_n (n := 81) ok 0 dX6_fits_80 rfl rfl rfl ?_
            refine g_if_eq (n := 84) (tgt := 90) ok dX6_fits_81 (by decide) rfl (fun c3 => ?_) (fun c3 => ?_)
            · rw [if_pos c3]
              refine g_iconst (n := 91) (v := 0) ok dX6_fits_90 rfl rfl ?_
              refine g_ior (n := 92) ok dX6_fits_91 rfl ?_
              refine g_istore_n (n := 93) (lv' := [(1, vi (x27_1 ||| 0)), (3, vi x37_3), (2, vi (nI i27)), (0, vr 52)]) ok dX6_fits_92 rfl (by decide) rfl rfl ?_
              refine g_iinc (n := 96) (v := nI (i27 + 1)) (lv' := [(2, vi (nI (i27 + 1))), (1, vi (x27_1 ||| 0)), (3, vi x37_3), (0, vr 52)]) ok 2 dX6_fits_93 rfl (iinc_n (a := i27) rfl) (by decide) rfl rfl ?_
              refine g_goto (tgt := 27) ok dX6_fits_96 (by decide) ?_
              refine g_sub [0, 1, 3] rfl ?_
              exact ih (i27 + 1) (x27_1 ||| 0) (by omega)
            · rw [if_neg c3]
              refine g_iconst (n := 85) (v := 1) ok dX6_fits_84 rfl rfl ?_
              refine g_iload_n (n := 86) ok 1 dX6_fits_85 rfl rfl rfl ?_
              refine g_ishl (n := 87) ok dX6_fits_86 rfl ?_
              refine g_goto (tgt := 91) ok dX6_fits_87 (by decide) ?_
              refine g_ior (n := 92) ok dX6_fits_91 rfl ?_
              refine g_istore_n (n := 93) (lv' := [(1, vi (x27_1 ||| (1 <<< ((nI i27) &&& 31)))), (3, vi x37_3), (2, vi (nI i27)), (0, vr 52)]) ok dX6_fits_92 rfl (by decide) rfl rfl ?_
              refine g_iinc (n := 96) (v := nI (i27 + 1)) (lv' := [(2, vi (nI (i27 + 1))), (1, vi (x27_1 ||| (1 <<< ((nI i27) &&& 31)))), (3, vi x37_3), (0, vr 52)]) ok 2 dX6_fits_93 rfl (iinc_n (a := i27) rfl) (by decide) rfl rfl ?_
              refine g_goto (tgt := 27) ok dX6_fits_96 (by decide) ?_
              refine g_sub [0, 1, 3] rfl ?_
              exact ih (i27 + 1) (x27_1 ||| (1 <<< ((nI i27) &&& 31))) (by omega)
          have L37 : ∀ (n37 i37 : Nat) (x37_3 : Int32) (hi : i37 + n37 = ix (K5 52 5)), G E 5 ((some (vi (((fX6_fits_x27 K5 (fo n27 (i27 + 1) (fun (i : Nat) (s : Int32) => fX6_fits_b27 K5 i s) (fX6_fits_x37 x27_1 i27 (fo n37 i37 (fun (i : Nat) (s : Int32) => fX6_fits_b37 K5 i27 i s) x37_3)))).1))), (fX6_fits_x27 K5 (fo n27 (i27 + 1) (fun (i : Nat) (s : Int32) => fX6_fits_b27 K5 i s) (fX6_fits_x37 x27_1 i27 (fo n37 i37 (fun (i : Nat) (s : Int32) => fX6_fits_b37 K5 i27 i s) x37_3)))).2)) K5 37 [(4, vi (nI i37)), (3, vi x37_3), (2, vi (nI i27)), (1, vi x27_1), (0, vr 52)] [] := by
            intro n37
            induction n37 with
            | zero =>
              intro i37 x37_3 hi
              rw [fo_0]
              refine g_iload (n := 39) ok 0 dX6_fits_37 rfl rfl ?_
              refine g_aload_n (n := 40) ok 4 dX6_fits_39 rfl rfl rfl ?_
              refine g_get (n := 43) (v := vi (K5 52 5)) (c := 6) (k := 5) ok dX6_fits_40 clsX6 (by decide) q683 rfl rfl rfl ?_
              refine g_icmp_ge (n := 46) (tgt := 79) ok dX6_fits_43 (by decide) rfl (fun c => ?_) (fun c => absurd (nle (a := ix (K5 52 5)) (b := i37) (vx hd2) rfl (by omega) (by omega)) c)
              refine g_sub [1, 2, 3, 4] rfl ?_
              exact X37 _
            | succ n37 ih =>
              intro i37 x37_3 hi
              refine g_iload (n := 39) ok 0 dX6_fits_37 rfl rfl ?_
              refine g_aload_n (n := 40) ok 4 dX6_fits_39 rfl rfl rfl ?_
              refine g_get (n := 43) (v := vi (K5 52 5)) (c := 6) (k := 5) ok dX6_fits_40 clsX6 (by decide) q683 rfl rfl rfl ?_
              refine g_icmp_ge (n := 46) (tgt := 79) ok dX6_fits_43 (by decide) rfl (fun c => absurd c (nnle (a := ix (K5 52 5)) (b := i37) (vx hd2) rfl (by omega) (by omega))) (fun c => ?_)
              rw [fo_s]
              show G E 5 ((some (vi (((fX6_fits_x27 K5 (fo n27 (i27 + 1) (fun (i : Nat) (s : Int32) => fX6_fits_b27 K5 i s) (fX6_fits_x37 x27_1 i27 (fo n37 (i37 + 1) (fun (i : Nat) (s : Int32) => fX6_fits_b37 K5 i27 i s) (fX6_fits_b37 K5 i27 i37 x37_3))))).1))), (fX6_fits_x27 K5 (fo n27 (i27 + 1) (fun (i : Nat) (s : Int32) => fX6_fits_b27 K5 i s) (fX6_fits_x37 x27_1 i27 (fo n37 (i37 + 1) (fun (i : Nat) (s : Int32) => fX6_fits_b37 K5 i27 i s) (fX6_fits_b37 K5 i27 i37 x37_3))))).2)) _ _ _ _
              rw [fX6_fits_b37]
              refine g_iload_n (n := 47) ok 1 dX6_fits_46 rfl rfl rfl ?_
              refine g_if_eq (n := 50) (tgt := 71) ok dX6_fits_47 (by decide) rfl (fun c4 => ?_) (fun c4 => ?_)
              · rw [if_pos c4]
                refine g_iconst (n := 72) (v := 0) ok dX6_fits_71 rfl rfl ?_
                refine g_istore_n (n := 73) (lv' := [(3, vi 0), (4, vi (nI i37)), (2, vi (nI i27)), (1, vi x27_1), (0, vr 52)]) ok dX6_fits_72 rfl (by decide) rfl rfl ?_
                refine g_iinc (n := 76) (v := nI (i37 + 1)) (lv' := [(4, vi (nI (i37 + 1))), (3, vi 0), (2, vi (nI i27)), (1, vi x27_1), (0, vr 52)]) ok 1 dX6_fits_73 rfl (iinc_n (a := i37) rfl) (by decide) rfl rfl ?_
                refine g_goto (tgt := 37) ok dX6_fits_76 (by decide) ?_
                exact ih (i37 + 1) 0 (by omega)
              · rw [if_neg c4]
                refine g_aload_n (n := 51) ok 4 dX6_fits_50 rfl rfl rfl ?_
                refine g_iload_n (n := 52) ok 2 dX6_fits_51 rfl rfl rfl ?_
                refine g_iload (n := 54) ok 0 dX6_fits_52 rfl rfl ?_
                refine g_callV (n := 57) (rest := []) (av := [vi (nI i27), vi (nI i37)]) (j := 52) ok (kX6_markBy K5 (nI i27) i37 (by first | with_reducible assumption | omega) hF2) knX6_markBy q1036 q1038 qs58 clsX6 rfl dX6_fits_54 rfl rfl (Nat.le_of_ble_eq_true rfl) (by decide) (by decide) rfl ?_
                refine g_aload_n (n := 58) ok 4 dX6_fits_57 rfl rfl rfl ?_
                refine g_get (n := 61) (v := vr 67) (c := 6) (k := 26) ok dX6_fits_58 clsX6 (by decide) q704 rfl rfl rfl ?_
                refine g_iload (n := 63) ok 0 dX6_fits_61 rfl rfl ?_
                refine g_iald (n := 64) (i := i37) (L := 12) ok dX6_fits_63 rfl rfl rfl (by omega) rfl ?_
                refine g_icmp_ne (n := 67) (tgt := 71) ok dX6_fits_64 (by decide) rfl (fun c5 => ?_) (fun c5 => ?_)
                · rw [if_neg c5]
                  refine g_iconst (n := 72) (v := 0) ok dX6_fits_71 rfl rfl ?_
                  refine g_istore_n (n := 73) (lv' := [(3, vi 0), (4, vi (nI i37)), (2, vi (nI i27)), (1, vi x27_1), (0, vr 52)]) ok dX6_fits_72 rfl (by decide) rfl rfl ?_
                  refine g_iinc (n := 76) (v := nI (i37 + 1)) (lv' := [(4, vi (nI (i37 + 1))), (3, vi 0), (2, vi (nI i27)), (1, vi x27_1), (0, vr 52)]) ok 1 dX6_fits_73 rfl (iinc_n (a := i37) rfl) (by decide) rfl rfl ?_
                  refine g_goto (tgt := 37) ok dX6_fits_76 (by decide) ?_
                  exact ih (i37 + 1) 0 (by omega)
                · rw [if_pos c5]
                  refine g_iconst (n := 68) (v := 1) ok dX6_fits_67 rfl rfl ?_
                  refine g_goto (tgt := 72) ok dX6_fits_68 (by decide) ?_
                  refine g_istore_n (n := 73) (lv' := [(3, vi 1), (4, vi (nI i37)), (2, vi (nI i27)), (1, vi x27_1), (0, vr 52)]) ok dX6_fits_72 rfl (by decide) rfl rfl ?_
                  refine g_iinc (n := 76) (v := nI (i37 + 1)) (lv' := [(4, vi (nI (i37 + 1))), (3, vi 1), (2, vi (nI i27)), (1, vi x27_1), (0, vr 52)]) ok 1 dX6_fits_73 rfl (iinc_n (a := i37) rfl) (by decide) rfl rfl ?_
                  refine g_goto (tgt := 37) ok dX6_fits_76 (by decide) ?_
                  exact ih (i37 + 1) 1 (by omega)
          exact L37 (ix (K5 52 5)) 0 1 (by omega)
      exact L27 5 0 0 (by omega)
    · rw [if_neg c2]
      refine g_aload_n (n := 17) ok 0 dX6_fits_16 rfl rfl rfl ?_
      refine g_bipush (n := 19) (v := -3) ok dX6_fits_17 rfl rfl ?_
      refine g_callV (n := 22) (rest := []) (av := [vi (-3)]) (j := 52) ok (kX6_refuse K5 (-3) (vp_b (by decide +kernel))) knX6_refuse q770 q772 qs25 clsX6 rfl dX6_fits_19 rfl rfl (Nat.le_of_ble_eq_true rfl) (by decide) (by decide) rfl ?_
      exact g_iret ok hr dX6_fits_22
  exact C5_6 _ (by rw [up_k (by omega)]; exact hd) (fun n hn => by rw [up_ne2 (by omega)]; exact hF n hn) (by rw [up_k (by omega)]; exact hr9)

noncomputable def fX6_areApart_x4 (x4_2 : Int32) : Int32 :=
  x4_2
noncomputable def fX6_areApart_x12 (x12_2 : Int32) : Int32 :=
  x12_2
noncomputable def fX6_areApart_x24 (x12_2 : Int32) (x24_5 : Int32) : Int32 :=
  if x12_2 = 0 then 0 else (if x24_5 = 0 then 0 else 1)
noncomputable def fX6_areApart_b24 (I : HI) (set : Int32) (i4 : Nat) (i12 : Nat) (i24 : Nat) (x24_5 : Int32) : Int32 :=
  if x24_5 = 0 then (if (set >>> ((nI i24) &&& 31)) &&& 1 = 1 then (if fX6_markBy I (nI i4) i24 = fX6_markBy I (nI i12) i24 then 0 else 1) else 0) else 1
noncomputable def fX6_areApart_b12 (I : HI) (set : Int32) (i4 : Nat) (i12 : Nat) (x12_2 : Int32) : Int32 :=
  fX6_areApart_x24 x12_2 (fo (ix (I 52 5)) 0 (fun (i : Nat) (s : Int32) => fX6_areApart_b24 I set i4 i12 i s) 0)
noncomputable def fX6_areApart_b4 (I : HI) (set : Int32) (i4 : Nat) (x4_2 : Int32) : Int32 :=
  fX6_areApart_x12 (fo i4 0 (fun (i : Nat) (s : Int32) => fX6_areApart_b12 I set i4 i s) x4_2)
noncomputable def fX6_areApart (I : HI) (set : Int32) : Int32 :=
  fX6_areApart_x4 (fo 5 0 (fun (i : Nat) (s : Int32) => fX6_areApart_b4 I set i s) 1)
theorem knX6_areApart : Kn yX6_areApart cX6_areApart 7 (some .boolean) 1 := ⟨q1054, q8, ⟨by decide, by decide⟩, by decide +kernel⟩
set_option maxHeartbeats 400000 in
set_option maxRecDepth 100000 in
theorem kX6_areApart (I : HI) (set : Int32) (hd : vp_in (I 52 5) 7) (hF : ∀ n, n < 27 → vp_in (I 56 n) 2) : Cx yX6_areApart cX6_areApart 7 (some .boolean) 3 70 [vr 52, vi set] I ((some (vi ((fX6_areApart I set))), I)) := by
  refine Cx.mk (lv := [(0, vr 52), (1, vi set)]) (by decide) (Nat.le_of_ble_eq_true rfl) rfl (fun E ok hr => ?_)
  have hd1 := vb hd
  rw [fX6_areApart]
  refine g_iconst (n := 1) (v := 1) ok dX6_areApart_0 rfl rfl ?_
  refine g_istore_n (n := 2) (lv' := [(2, vi 1), (0, vr 52), (1, vi set)]) ok dX6_areApart_1 rfl (by decide) rfl rfl ?_
  refine g_iconst (n := 3) (v := 0) ok dX6_areApart_2 rfl rfl ?_
  refine g_istore_n (n := 4) (lv' := [(3, vi 0), (2, vi 1), (0, vr 52), (1, vi set)]) ok dX6_areApart_3 rfl (by decide) rfl rfl ?_
  have X4 : ∀ (x4_2 : Int32) (hz2 : x4_2 = 0 ∨ x4_2 = 1), G E 7 ((some (vi ((fX6_areApart_x4 x4_2))), I)) I 106 [(2, vi x4_2)] [] := by
    intro x4_2 hz2
    rw [fX6_areApart_x4]
    refine g_iload_n (n := 107) ok 0 dX6_areApart_106 rfl rfl rfl ?_
    exact g_zret (x := x4_2) ok hr dX6_areApart_107 hz2
  have L4 : ∀ (n4 i4 : Nat) (x4_2 : Int32) (hz2 : x4_2 = 0 ∨ x4_2 = 1) (hi : i4 + n4 = 5), G E 7 ((some (vi ((fX6_areApart_x4 (fo n4 i4 (fun (i : Nat) (s : Int32) => fX6_areApart_b4 I set i s) x4_2)))), I)) I 4 [(3, vi (nI i4)), (2, vi x4_2), (0, vr 52), (1, vi set)] [] := by
    intro n4
    induction n4 with
    | zero =>
      intro i4 x4_2 hz2 hi
      rw [fo_0]
      refine g_iload_n (n := 5) ok 0 dX6_areApart_4 rfl rfl rfl ?_
      refine g_iconst (n := 6) (v := 5) ok dX6_areApart_5 rfl rfl ?_
      refine g_icmp_ge (n := 9) (tgt := 106) ok dX6_areApart_6 (by decide) rfl (fun c => ?_) (fun c => absurd (nle (a := 5) (b := i4) rfl rfl (by omega) (by omega)) c)
      refine g_sub [1] rfl ?_
      exact X4 _ hz2
    | succ n4 ih =>
      intro i4 x4_2 hz2 hi
      refine g_iload_n (n := 5) ok 0 dX6_areApart_4 rfl rfl rfl ?_
      refine g_iconst (n := 6) (v := 5) ok dX6_areApart_5 rfl rfl ?_
      refine g_icmp_ge (n := 9) (tgt := 106) ok dX6_areApart_6 (by decide) rfl (fun c => absurd c (nnle (a := 5) (b := i4) rfl rfl (by omega) (by omega))) (fun c => ?_)
      rw [fo_s]
      show G E 7 ((some (vi ((fX6_areApart_x4 (fo n4 (i4 + 1) (fun (i : Nat) (s : Int32) => fX6_areApart_b4 I set i s) (fX6_areApart_b4 I set i4 x4_2))))), I)) _ _ _ _
      rw [fX6_areApart_b4]
      refine g_iconst (n := 10) (v := 0) ok dX6_areApart_9 rfl rfl ?_
      refine g_istore (n := 12) (lv' := [(4, vi 0), (3, vi (nI i4)), (2, vi x4_2), (0, vr 52), (1, vi set)]) ok dX6_areApart_10 (by decide) rfl rfl ?_
      have X12 : ∀ (x12_2 : Int32) (hz22 : x12_2 = 0 ∨ x12_2 = 1), G E 7 ((some (vi ((fX6_areApart_x4 (fo n4 (i4 + 1) (fun (i : Nat) (s : Int32) => fX6_areApart_b4 I set i s) (fX6_areApart_x12 x12_2))))), I)) I 100 [(3, vi (nI i4)), (2, vi x12_2), (0, vr 52), (1, vi set)] [] := by
        intro x12_2 hz22
        rw [fX6_areApart_x12]
        refine g_iinc (n := 103) (v := nI (i4 + 1)) (lv' := [(3, vi (nI (i4 + 1))), (2, vi x12_2), (0, vr 52), (1, vi set)]) ok 0 dX6_areApart_100 rfl (iinc_n (a := i4) rfl) (by decide) rfl rfl ?_
        refine g_goto (tgt := 4) ok dX6_areApart_103 (by decide) ?_
        exact ih (i4 + 1) x12_2 hz22 (by omega)
      have L12 : ∀ (n12 i12 : Nat) (x12_2 : Int32) (hz22 : x12_2 = 0 ∨ x12_2 = 1) (hi : i12 + n12 = i4), G E 7 ((some (vi ((fX6_areApart_x4 (fo n4 (i4 + 1) (fun (i : Nat) (s : Int32) => fX6_areApart_b4 I set i s) (fX6_areApart_x12 (fo n12 i12 (fun (i : Nat) (s : Int32) => fX6_areApart_b12 I set i4 i s) x12_2)))))), I)) I 12 [(4, vi (nI i12)), (3, vi (nI i4)), (2, vi x12_2), (0, vr 52), (1, vi set)] [] := by
        intro n12
        induction n12 with
        | zero =>
          intro i12 x12_2 hz22 hi
          rw [fo_0]
          refine g_iload (n := 14) ok 0 dX6_areApart_12 rfl rfl ?_
          refine g_iload_n (n := 15) ok 1 dX6_areApart_14 rfl rfl rfl ?_
          refine g_icmp_ge (n := 18) (tgt := 100) ok dX6_areApart_15 (by decide) rfl (fun c => ?_) (fun c => absurd (nle (a := i4) (b := i12) rfl rfl (by omega) (by omega)) c)
          refine g_sub [1, 2, 3, 4] rfl ?_
          exact X12 _ hz22
        | succ n12 ih =>
          intro i12 x12_2 hz22 hi
          refine g_iload (n := 14) ok 0 dX6_areApart_12 rfl rfl ?_
          refine g_iload_n (n := 15) ok 1 dX6_areApart_14 rfl rfl rfl ?_
          refine g_icmp_ge (n := 18) (tgt := 100) ok dX6_areApart_15 (by decide) rfl (fun c => absurd c (nnle (a := i4) (b := i12) rfl rfl (by omega) (by omega))) (fun c => ?_)
          rw [fo_s]
          show G E 7 ((some (vi ((fX6_areApart_x4 (fo n4 (i4 + 1) (fun (i : Nat) (s : Int32) => fX6_areApart_b4 I set i s) (fX6_areApart_x12 (fo n12 (i12 + 1) (fun (i : Nat) (s : Int32) => fX6_areApart_b12 I set i4 i s) (fX6_areApart_b12 I set i4 i12 x12_2))))))), I)) _ _ _ _
          rw [fX6_areApart_b12]
          refine g_iconst (n := 19) (v := 0) ok dX6_areApart_18 rfl rfl ?_
          refine g_istore (n := 21) (lv' := [(5, vi 0), (4, vi (nI i12)), (3, vi (nI i4)), (2, vi x12_2), (0, vr 52), (1, vi set)]) ok dX6_areApart_19 (by decide) rfl rfl ?_
          refine g_iconst (n := 22) (v := 0) ok dX6_areApart_21 rfl rfl ?_
          refine g_istore (n := 24) (lv' := [(6, vi 0), (5, vi 0), (4, vi (nI i12)), (3, vi (nI i4)), (2, vi x12_2), (0, vr 52), (1, vi set)]) ok dX6_areApart_22 (by decide) rfl rfl ?_
          have X24 : ∀ (x24_5 : Int32), G E 7 ((some (vi ((fX6_areApart_x4 (fo n4 (i4 + 1) (fun (i : Nat) (s : Int32) => fX6_areApart_b4 I set i s) (fX6_areApart_x12 (fo n12 (i12 + 1) (fun (i : Nat) (s : Int32) => fX6_areApart_b12 I set i4 i s) (fX6_areApart_x24 x12_2 x24_5))))))), I)) I 79 [(5, vi x24_5), (4, vi (nI i12)), (3, vi (nI i4)), (2, vi x12_2), (0, vr 52), (1, vi set)] [] := by
            intro x24_5
            rw [fX6_areApart_x24]
            refine g_iload_n (n := 80) ok 3 dX6_areApart_79 rfl rfl rfl ?_
            refine g_if_eq (n := 83) (tgt := 92) ok dX6_areApart_80 (by decide) rfl (fun c1 => ?_) (fun c1 => ?_)
            · rw [if_pos c1]
              refine g_iconst (n := 93) (v := 0) ok dX6_areApart_92 rfl rfl ?_
              refine g_istore_n (n := 94) (lv' := [(2, vi 0), (5, vi x24_5), (4, vi (nI i12)), (3, vi (nI i4)), (0, vr 52), (1, vi set)]) ok dX6_areApart_93 rfl (by decide) rfl rfl ?_
              refine g_iinc (n := 97) (v := nI (i12 + 1)) (lv' := [(4, vi (nI (i12 + 1))), (2, vi 0), (5, vi x24_5), (3, vi (nI i4)), (0, vr 52), (1, vi set)]) ok 2 dX6_areApart_94 rfl (iinc_n (a := i12) rfl) (by decide) rfl rfl ?_
              refine g_goto (tgt := 12) ok dX6_areApart_97 (by decide) ?_
              refine g_sub [0, 3, 1, 4, 5] rfl ?_
              exact ih (i12 + 1) 0 (by decide) (by omega)
            · rw [if_neg c1]
              refine g_iload (n := 85) ok 0 dX6_areApart_83 rfl rfl ?_
              refine g_if_eq (n := 88) (tgt := 92) ok dX6_areApart_85 (by decide) rfl (fun c2 => ?_) (fun c2 => ?_)
              · rw [if_pos c2]
                refine g_iconst (n := 93) (v := 0) ok dX6_areApart_92 rfl rfl ?_
                refine g_istore_n (n := 94) (lv' := [(2, vi 0), (5, vi x24_5), (4, vi (nI i12)), (3, vi (nI i4)), (0, vr 52), (1, vi set)]) ok dX6_areApart_93 rfl (by decide) rfl rfl ?_
                refine g_iinc (n := 97) (v := nI (i12 + 1)) (lv' := [(4, vi (nI (i12 + 1))), (2, vi 0), (5, vi x24_5), (3, vi (nI i4)), (0, vr 52), (1, vi set)]) ok 2 dX6_areApart_94 rfl (iinc_n (a := i12) rfl) (by decide) rfl rfl ?_
                refine g_goto (tgt := 12) ok dX6_areApart_97 (by decide) ?_
                refine g_sub [0, 3, 1, 4, 5] rfl ?_
                exact ih (i12 + 1) 0 (by decide) (by omega)
              · rw [if_neg c2]
                refine g_iconst (n := 89) (v := 1) ok dX6_areApart_88 rfl rfl ?_
                refine g_goto (tgt := 93) ok dX6_areApart_89 (by decide) ?_
                refine g_istore_n (n := 94) (lv' := [(2, vi 1), (5, vi x24_5), (4, vi (nI i12)), (3, vi (nI i4)), (0, vr 52), (1, vi set)]) ok dX6_areApart_93 rfl (by decide) rfl rfl ?_
                refine g_iinc (n := 97) (v := nI (i12 + 1)) (lv' := [(4, vi (nI (i12 + 1))), (2, vi 1), (5, vi x24_5), (3, vi (nI i4)), (0, vr 52), (1, vi set)]) ok 2 dX6_areApart_94 rfl (iinc_n (a := i12) rfl) (by decide) rfl rfl ?_
                refine g_goto (tgt := 12) ok dX6_areApart_97 (by decide) ?_
                refine g_sub [0, 3, 1, 4, 5] rfl ?_
                exact ih (i12 + 1) 1 (by decide) (by omega)
          have L24 : ∀ (n24 i24 : Nat) (x24_5 : Int32) (hi : i24 + n24 = ix (I 52 5)), G E 7 ((some (vi ((fX6_areApart_x4 (fo n4 (i4 + 1) (fun (i : Nat) (s : Int32) => fX6_areApart_b4 I set i s) (fX6_areApart_x12 (fo n12 (i12 + 1) (fun (i : Nat) (s : Int32) => fX6_areApart_b12 I set i4 i s) (fX6_areApart_x24 x12_2 (fo n24 i24 (fun (i : Nat) (s : Int32) => fX6_areApart_b24 I set i4 i12 i s) x24_5)))))))), I)) I 24 [(6, vi (nI i24)), (5, vi x24_5), (4, vi (nI i12)), (3, vi (nI i4)), (2, vi x12_2), (0, vr 52), (1, vi set)] [] := by
            intro n24
            induction n24 with
            | zero =>
              intro i24 x24_5 hi
              rw [fo_0]
              refine g_iload (n := 26) ok 0 dX6_areApart_24 rfl rfl ?_
              refine g_aload_n (n := 27) ok 5 dX6_areApart_26 rfl rfl rfl ?_
              refine g_get (n := 30) (v := vi (I 52 5)) (c := 6) (k := 5) ok dX6_areApart_27 clsX6 (by decide) q683 rfl rfl rfl ?_
              refine g_icmp_ge (n := 33) (tgt := 79) ok dX6_areApart_30 (by decide) rfl (fun c => ?_) (fun c => absurd (nle (a := ix (I 52 5)) (b := i24) (vx hd) rfl (by omega) (by omega)) c)
              refine g_sub [1, 2, 3, 4, 5, 6] rfl ?_
              exact X24 _
            | succ n24 ih =>
              intro i24 x24_5 hi
              refine g_iload (n := 26) ok 0 dX6_areApart_24 rfl rfl ?_
              refine g_aload_n (n := 27) ok 5 dX6_areApart_26 rfl rfl rfl ?_
              refine g_get (n := 30) (v := vi (I 52 5)) (c := 6) (k := 5) ok dX6_areApart_27 clsX6 (by decide) q683 rfl rfl rfl ?_
              refine g_icmp_ge (n := 33) (tgt := 79) ok dX6_areApart_30 (by decide) rfl (fun c => absurd c (nnle (a := ix (I 52 5)) (b := i24) (vx hd) rfl (by omega) (by omega))) (fun c => ?_)
              rw [fo_s]
              show G E 7 ((some (vi ((fX6_areApart_x4 (fo n4 (i4 + 1) (fun (i : Nat) (s : Int32) => fX6_areApart_b4 I set i s) (fX6_areApart_x12 (fo n12 (i12 + 1) (fun (i : Nat) (s : Int32) => fX6_areApart_b12 I set i4 i s) (fX6_areApart_x24 x12_2 (fo n24 (i24 + 1) (fun (i : Nat) (s : Int32) => fX6_areApart_b24 I set i4 i12 i s) (fX6_areApart_b24 I set i4 i12 i24 x24_5))))))))), I)) _ _ _ _
              rw [fX6_areApart_b24]
              refine g_iload (n := 35) ok 1 dX6_areApart_33 rfl rfl ?_
              refine g_if_ne (n := 38) (tgt := 66) ok dX6_areApart_35 (by decide) rfl (fun c3 => ?_) (fun c3 => ?_)
              · rw [if_neg c3]
                refine g_iconst (n := 67) (v := 1) ok dX6_areApart_66 rfl rfl ?_
                refine g_goto (tgt := 71) ok dX6_areApart_67 (by decide) ?_
                refine g_istore (n := 73) (lv' := [(5, vi 1), (6, vi (nI i24)), (4, vi (nI i12)), (3, vi (nI i4)), (2, vi x12_2), (0, vr 52), (1, vi set)]) ok dX6_areApart_71 (by decide) rfl rfl ?_
                refine g_iinc (n := 76) (v := nI (i24 + 1)) (lv' := [(6, vi (nI (i24 + 1))), (5, vi 1), (4, vi (nI i12)), (3, vi (nI i4)), (2, vi x12_2), (0, vr 52), (1, vi set)]) ok 1 dX6_areApart_73 rfl (iinc_n (a := i24) rfl) (by decide) rfl rfl ?_
                refine g_goto (tgt := 24) ok dX6_areApart_76 (by decide) ?_
                exact ih (i24 + 1) 1 (by omega)
              · rw [if_pos c3]
                refine g_iload_n (n := 39) ok 6 dX6_areApart_38 rfl rfl rfl ?_
                refine g_iload (n := 41) ok 0 dX6_areApart_39 rfl rfl ?_
                refine g_ishr (n := 42) ok dX6_areApart_41 rfl ?_
                refine g_iconst (n := 43) (v := 1) ok dX6_areApart_42 rfl rfl ?_
                refine g_iand (n := 44) ok dX6_areApart_43 rfl ?_
                refine g_iconst (n := 45) (v := 1) ok dX6_areApart_44 rfl rfl ?_
                refine g_icmp_ne (n := 48) (tgt := 70) ok dX6_areApart_45 (by decide) rfl (fun c4 => ?_) (fun c4 => ?_)
                · rw [if_neg c4]
                  refine g_iconst (n := 71) (v := 0) ok dX6_areApart_70 rfl rfl ?_
                  refine g_istore (n := 73) (lv' := [(5, vi 0), (6, vi (nI i24)), (4, vi (nI i12)), (3, vi (nI i4)), (2, vi x12_2), (0, vr 52), (1, vi set)]) ok dX6_areApart_71 (by decide) rfl rfl ?_
                  refine g_iinc (n := 76) (v := nI (i24 + 1)) (lv' := [(6, vi (nI (i24 + 1))), (5, vi 0), (4, vi (nI i12)), (3, vi (nI i4)), (2, vi x12_2), (0, vr 52), (1, vi set)]) ok 1 dX6_areApart_73 rfl (iinc_n (a := i24) rfl) (by decide) rfl rfl ?_
                  refine g_goto (tgt := 24) ok dX6_areApart_76 (by decide) ?_
                  exact ih (i24 + 1) 0 (by omega)
                · rw [if_pos c4]
                  refine g_aload_n (n := 49) ok 5 dX6_areApart_48 rfl rfl rfl ?_
                  refine g_iload_n (n := 50) ok 3 dX6_areApart_49 rfl rfl rfl ?_
                  refine g_iload (n := 52) ok 0 dX6_areApart_50 rfl rfl ?_
                  refine g_callV (n := 55) (rest := []) (av := [vi (nI i4), vi (nI i24)]) (j := 52) ok (kX6_markBy I (nI i4) i24 (by first | with_reducible assumption | omega) (by first | with_reducible assumption | omega)) knX6_markBy q1036 q1038 qs58 clsX6 rfl dX6_areApart_52 rfl rfl (Nat.le_of_ble_eq_true rfl) (by decide) (by decide) rfl ?_
                  refine g_aload_n (n := 56) ok 5 dX6_areApart_55 rfl rfl rfl ?_
                  refine g_iload (n := 58) ok 2 dX6_areApart_56 rfl rfl ?_
                  refine g_iload (n := 60) ok 0 dX6_areApart_58 rfl rfl ?_
                  refine g_callV (n := 63) (rest := [vi (fX6_markBy I (nI i4) i24)]) (av := [vi (nI i12), vi (nI i24)]) (j := 52) ok (kX6_markBy I (nI i12) i24 (by first | with_reducible assumption | omega) (by first | with_reducible assumption | omega)) knX6_markBy q1036 q1038 qs58 clsX6 rfl dX6_areApart_60 rfl rfl (Nat.le_of_ble_eq_true rfl) (by decide) (by decide) rfl ?_
                  refine g_icmp_eq (n := 66) (tgt := 70) ok dX6_areApart_63 (by decide) rfl (fun c5 => ?_) (fun c5 => ?_)
                  · rw [if_pos c5]
                    refine g_iconst (n := 71) (v := 0) ok dX6_areApart_70 rfl rfl ?_
                    refine g_istore (n := 73) (lv' := [(5, vi 0), (6, vi (nI i24)), (4, vi (nI i12)), (3, vi (nI i4)), (2, vi x12_2), (0, vr 52), (1, vi set)]) ok dX6_areApart_71 (by decide) rfl rfl ?_
                    refine g_iinc (n := 76) (v := nI (i24 + 1)) (lv' := [(6, vi (nI (i24 + 1))), (5, vi 0), (4, vi (nI i12)), (3, vi (nI i4)), (2, vi x12_2), (0, vr 52), (1, vi set)]) ok 1 dX6_areApart_73 rfl (iinc_n (a := i24) rfl) (by decide) rfl rfl ?_
                    refine g_goto (tgt := 24) ok dX6_areApart_76 (by decide) ?_
                    exact ih (i24 + 1) 0 (by omega)
                  · rw [if_neg c5]
                    refine g_iconst (n := 67) (v := 1) ok dX6_areApart_66 rfl rfl ?_
                    refine g_goto (tgt := 71) ok dX6_areApart_67 (by decide) ?_
                    refine g_istore (n := 73) (lv' := [(5, vi 1), (6, vi (nI i24)), (4, vi (nI i12)), (3, vi (nI i4)), (2, vi x12_2), (0, vr 52), (1, vi set)]) ok dX6_areApart_71 (by decide) rfl rfl ?_
                    refine g_iinc (n := 76) (v := nI (i24 + 1)) (lv' := [(6, vi (nI (i24 + 1))), (5, vi 1), (4, vi (nI i12)), (3, vi (nI i4)), (2, vi x12_2), (0, vr 52), (1, vi set)]) ok 1 dX6_areApart_73 rfl (iinc_n (a := i24) rfl) (by decide) rfl rfl ?_
                    refine g_goto (tgt := 24) ok dX6_areApart_76 (by decide) ?_
                    exact ih (i24 + 1) 1 (by omega)
          exact L24 (ix (I 52 5)) 0 0 (by omega)
      exact L12 i4 0 x4_2 hz2 (by omega)
  exact L4 5 0 1 (by decide) (by omega)

noncomputable def fX6_fewest_x27 (what : Int32) (K5 : HI) (x27_2 : Int32) : Int32 × HI :=
  if 0 ≤ x27_2 then (if what = 0 then (fX6_ones (ix x27_2), K5) else (x27_2, K5)) else ((-9), K5)
noncomputable def fX6_fewest_b27 (K5 : HI) (i27 : Nat) (x27_2 : Int32) : Int32 :=
  if x27_2 < 0 then (if fX6_areApart K5 (nI i27) = 0 then x27_2 else nI i27) else (if fX6_ones (ix x27_2) ≤ fX6_ones i27 then x27_2 else (if fX6_areApart K5 (nI i27) = 0 then x27_2 else nI i27))
noncomputable def fX6_fewest_c5 (what : Int32) (K5 : HI) : Int32 × HI :=
  if fX6_in what.toInt64 0 1 = 0 then ((fX6_refuse K5 (-2)).1, ((fX6_refuse K5 (-2)).2)) else fX6_fewest_x27 what K5 (fo (2 ^ ix (K5 52 5)) 0 (fun (i : Nat) (s : Int32) => fX6_fewest_b27 K5 i s) (-9))
noncomputable def fX6_fewest (I : HI) (what : Int32) : Int32 × HI :=
  fX6_fewest_c5 what (up I 52 10 0)
theorem knX6_fewest : Kn yX6_fewest cX6_fewest 4 (some .int) 1 := ⟨q1050, q8, ⟨by decide, by decide⟩, by decide +kernel⟩
set_option maxHeartbeats 400000 in
set_option maxRecDepth 100000 in
theorem kX6_fewest (I : HI) (what : Int32) (hd : vp_in (I 52 5) 7) (hF : ∀ n, n < 27 → vp_in (I 56 n) 2) : Cx yX6_fewest cX6_fewest 4 (some .int) 4 96 [vr 52, vi what] I ((some (vi (((fX6_fewest I what).1))), (fX6_fewest I what).2)) := by
  refine Cx.mk (lv := [(0, vr 52), (1, vi what)]) (by decide) (Nat.le_of_ble_eq_true rfl) rfl (fun E ok hr => ?_)
  rw [fX6_fewest]
  refine g_aload_n (n := 1) ok 0 dX6_fewest_0 rfl rfl rfl ?_
  refine g_iconst (n := 2) (v := 0) ok dX6_fewest_1 rfl rfl ?_
  refine g_put (n := 5) (J := up I 52 10 0) (c := 6) (k := 10) ok dX6_fewest_2 clsX6 tyX6 tyX6_ok nmX6 (by decide) q688 rfl rfl (fun _ => rfl) (fun _ => rfl) (Nat.le_of_ble_eq_true rfl) (fs_6_10 _ _ _) up_ne rfl ?_
  have C5_13 : ∀ (K5 : HI) (hd2 : vp_in (K5 52 5) 7) (hF2 : ∀ n, n < 27 → vp_in (K5 56 n) 2), G E 4 ((some (vi (((fX6_fewest_c5 what K5).1))), (fX6_fewest_c5 what K5).2)) K5 5 [(0, vr 52), (1, vi what)] [] := by
    intro K5 hd2 hF2
    rw [fX6_fewest_c5]
    have hd3 := vb hd2
    refine g_iload_n (n := 6) ok 1 dX6_fewest_5 rfl rfl rfl ?_
    refine g_i2l (n := 7) ok dX6_fewest_6 rfl ?_
    refine g_lconst (n := 8) (v := 0) ok dX6_fewest_7 rfl rfl ?_
    refine g_lconst (n := 9) (v := 1) ok dX6_fewest_8 rfl rfl ?_
    refine g_callS (n := 12) (rest := []) (av := [vl what.toInt64, vl 0, vl 1]) ok (kX6_in K5 what.toInt64 0 1) knX6_in q792 q793 dX6_fewest_9 rfl rfl (Nat.le_of_ble_eq_true rfl) (by decide) (by decide) rfl ?_
    refine g_if_ne (n := 15) (tgt := 22) ok dX6_fewest_12 (by decide) rfl (fun c3 => ?_) (fun c3 => ?_)
    · rw [if_neg c3]
      have ha4 : vp_in what 2 := in6_in (b := 1) c3 (by omega)
      have ha4b := vb ha4
      have hb57 := shl_le hd2
      refine g_bipush (n := 24) (v := -9) ok dX6_fewest_22 rfl rfl ?_
      refine g_istore_n (n := 25) (lv' := [(2, vi (-9)), (0, vr 52), (1, vi what)]) ok dX6_fewest_24 rfl (by decide) rfl rfl ?_
      refine g_iconst (n := 26) (v := 0) ok dX6_fewest_25 rfl rfl ?_
      refine g_istore_n (n := 27) (lv' := [(3, vi 0), (2, vi (-9)), (0, vr 52), (1, vi what)]) ok dX6_fewest_26 rfl (by decide) rfl rfl ?_
      have X27 : ∀ (x27_2 : Int32) (hb : x27_2 = (-9) ∨ vp_in x27_2 64), G E 4 ((some (vi (((fX6_fewest_x27 what K5 x27_2).1))), (fX6_fewest_x27 what K5 x27_2).2)) K5 72 [(2, vi x27_2), (1, vi what)] [] := by
        intro x27_2 hb
        rw [fX6_fewest_x27]
        refine g_iload_n (n := 73) ok 0 dX6_fewest_72 rfl rfl rfl ?_
        refine g_if_ge (n := 76) (tgt := 81) ok dX6_fewest_73 (by decide) rfl (fun c5 => ?_) (fun c5 => ?_)
        · rw [if_pos c5]
          have hbb := hb.resolve_left (fun e => absurd c5 (by rw [e]; decide))
          have hbb2 := vb hbb
          refine g_iload_n (n := 82) ok 1 dX6_fewest_81 rfl rfl rfl ?_
          refine g_if_ne (n := 85) (tgt := 92) ok dX6_fewest_82 (by decide) rfl (fun c6 => ?_) (fun c6 => ?_)
          · rw [if_neg c6]
            have hz7 := ixn (n := 0) ha4 c6 (by omega) (by omega)
            refine g_iload_n (n := 93) ok 0 dX6_fewest_92 rfl rfl rfl ?_
            exact g_iret ok hr dX6_fewest_93
          · rw [if_pos c6]
            have hz8 := ixe (n := 0) ha4 c6 (by omega) (by omega)
            refine g_iload_n (n := 86) ok 0 dX6_fewest_85 rfl rfl rfl ?_
            refine g_callS (n := 89) (rest := []) (av := [vi (nI (ix x27_2))]) ok (kX6_ones K5 (ix x27_2) (by first | with_reducible assumption | omega)) knX6_ones q1040 q1041 dX6_fewest_86 (lcons (congrArg vi (vx hbb)) rfl) rfl (Nat.le_of_ble_eq_true rfl) (by decide) (by decide) rfl ?_
            refine g_goto (tgt := 93) ok dX6_fewest_89 (by decide) ?_
            exact g_iret ok hr dX6_fewest_93
        · rw [if_neg c5]
          refine g_bipush (n := 78) (v := -9) ok dX6_fewest_76 rfl rfl ?_
          refine g_goto (tgt := 93) ok dX6_fewest_78 (by decide) ?_
          exact g_iret ok hr dX6_fewest_93
      have L27 : ∀ (n27 i27 : Nat) (x27_2 : Int32) (hb : x27_2 = (-9) ∨ vp_in x27_2 64) (hi : i27 + n27 = 2 ^ ix (K5 52 5)), G E 4 ((some (vi (((fX6_fewest_x27 what K5 (fo n27 i27 (fun (i : Nat) (s : Int32) => fX6_fewest_b27 K5 i s) x27_2)).1))), (fX6_fewest_x27 what K5 (fo n27 i27 (fun (i : Nat) (s : Int32) => fX6_fewest_b27 K5 i s) x27_2)).2)) K5 27 [(3, vi (nI i27)), (2, vi x27_2), (0, vr 52), (1, vi what)] [] := by
        intro n27
        induction n27 with
        | zero =>
          intro i27 x27_2 hb hi
          rw [fo_0]
          refine g_iload_n (n := 28) ok 0 dX6_fewest_27 rfl rfl rfl ?_
          refine g_iconst (n := 29) (v := 1) ok dX6_fewest_28 rfl rfl ?_
          refine g_aload_n (n := 30) ok 2 dX6_fewest_29 rfl rfl rfl ?_
          refine g_get (n := 33) (v := vi (K5 52 5)) (c := 6) (k := 5) ok dX6_fewest_30 clsX6 (by decide) q683 rfl rfl rfl ?_
          refine g_ishl (n := 34) ok dX6_fewest_33 rfl ?_
          refine g_icmp_ge (n := 37) (tgt := 72) ok dX6_fewest_34 (by decide) rfl (fun c => ?_) (fun c => absurd (nle (a := 2 ^ ix (K5 52 5)) (b := i27) (shl_n hd2) rfl (by omega) (by omega)) c)
          refine g_sub [1, 3] rfl ?_
          exact X27 _ hb
        | succ n27 ih =>
          intro i27 x27_2 hb hi
          refine g_iload_n (n := 28) ok 0 dX6_fewest_27 rfl rfl rfl ?_
          refine g_iconst (n := 29) (v := 1) ok dX6_fewest_28 rfl rfl ?_
          refine g_aload_n (n := 30) ok 2 dX6_fewest_29 rfl rfl rfl ?_
          refine g_get (n := 33) (v := vi (K5 52 5)) (c := 6) (k := 5) ok dX6_fewest_30 clsX6 (by decide) q683 rfl rfl rfl ?_
          refine g_ishl (n := 34) ok dX6_fewest_33 rfl ?_
          refine g_icmp_ge (n := 37) (tgt := 72) ok dX6_fewest_34 (by decide) rfl (fun c => absurd c (nnle (a := 2 ^ ix (K5 52 5)) (b := i27) (shl_n hd2) rfl (by omega) (by omega))) (fun c => ?_)
          rw [fo_s]
          show G E 4 ((some (vi (((fX6_fewest_x27 what K5 (fo n27 (i27 + 1) (fun (i : Nat) (s : Int32) => fX6_fewest_b27 K5 i s) (fX6_fewest_b27 K5 i27 x27_2))).1))), (fX6_fewest_x27 what K5 (fo n27 (i27 + 1) (fun (i : Nat) (s : Int32) => fX6_fewest_b27 K5 i s) (fX6_fewest_b27 K5 i27 x27_2))).2)) _ _ _ _
          rw [fX6_fewest_b27]
          refine g_iload_n (n := 38) ok 1 dX6_fewest_37 rfl rfl rfl ?_
          refine g_if_lt (n := 41) (tgt := 52) ok dX6_fewest_38 (by decide) rfl (fun c9 => ?_) (fun c9 => ?_)
          · rw [if_pos c9]
            refine g_aload_n (n := 53) ok 2 dX6_fewest_52 rfl rfl rfl ?_
            refine g_iload_n (n := 54) ok 0 dX6_fewest_53 rfl rfl rfl ?_
            refine g_callV (n := 57) (rest := []) (av := [vi (nI i27)]) (j := 52) ok (kX6_areApart K5 (nI i27) (by first | with_reducible assumption | omega) hF2) knX6_areApart q1051 q1053 qs59 clsX6 rfl dX6_fewest_54 rfl rfl (Nat.le_of_ble_eq_true rfl) (by decide) (by decide) rfl ?_
            refine g_if_eq (n := 60) (tgt := 64) ok dX6_fewest_57 (by decide) rfl (fun c10 => ?_) (fun c10 => ?_)
            · rw [if_pos c10]
              refine g_iload_n (n := 65) ok 1 dX6_fewest_64 rfl rfl rfl ?_
              refine g_istore_n (n := 66) (lv' := [(2, vi x27_2), (3, vi (nI i27)), (0, vr 52), (1, vi what)]) ok dX6_fewest_65 rfl (by decide) rfl rfl ?_
              refine g_iinc (n := 69) (v := nI (i27 + 1)) (lv' := [(3, vi (nI (i27 + 1))), (2, vi x27_2), (0, vr 52), (1, vi what)]) ok 1 dX6_fewest_66 rfl (iinc_n (a := i27) rfl) (by decide) rfl rfl ?_
              refine g_goto (tgt := 27) ok dX6_fewest_69 (by decide) ?_
              exact ih (i27 + 1) x27_2 (by first | exact hb | exact Or.inr (vp_nI (by omega) (by omega))) (by omega)
            · rw [if_neg c10]
              refine g_iload_n (n := 61) ok 0 dX6_fewest_60 rfl rfl rfl ?_
              refine g_goto (tgt := 65) ok dX6_fewest_61 (by decide) ?_
              refine g_istore_n (n := 66) (lv' := [(2, vi (nI i27)), (3, vi (nI i27)), (0, vr 52), (1, vi what)]) ok dX6_fewest_65 rfl (by decide) rfl rfl ?_
              refine g_iinc (n := 69) (v := nI (i27 + 1)) (lv' := [(3, vi (nI (i27 + 1))), (2, vi (nI i27)), (0, vr 52), (1, vi what)]) ok 1 dX6_fewest_66 rfl (iinc_n (a := i27) rfl) (by decide) rfl rfl ?_
              refine g_goto (tgt := 27) ok dX6_fewest_69 (by decide) ?_
              exact ih (i27 + 1) (nI i27) (by first | exact hb | exact Or.inr (vp_nI (by omega) (by omega))) (by omega)
          · rw [if_neg c9]
            have hbb := hb.resolve_left (fun e => c9 (by rw [e]; decide))
            have hbb2 := vb hbb
            refine g_iload_n (n := 42) ok 0 dX6_fewest_41 rfl rfl rfl ?_
            refine g_callS (n := 45) (rest := []) (av := [vi (nI i27)]) ok (kX6_ones K5 i27 (by first | with_reducible assumption | omega)) knX6_ones q1040 q1041 dX6_fewest_42 rfl rfl (Nat.le_of_ble_eq_true rfl) (by decide) (by decide) rfl ?_
            refine g_iload_n (n := 46) ok 1 dX6_fewest_45 rfl rfl rfl ?_
            refine g_callS (n := 49) (rest := [vi (fX6_ones i27)]) (av := [vi (nI (ix x27_2))]) ok (kX6_ones K5 (ix x27_2) (by first | with_reducible assumption | omega)) knX6_ones q1040 q1041 dX6_fewest_46 (lcons (congrArg vi (vx hbb)) rfl) rfl (Nat.le_of_ble_eq_true rfl) (by decide) (by decide) rfl ?_
            refine g_icmp_ge (n := 52) (tgt := 64) ok dX6_fewest_49 (by decide) rfl (fun c11 => ?_) (fun c11 => ?_)
            · rw [if_pos c11]
              refine g_iload_n (n := 65) ok 1 dX6_fewest_64 rfl rfl rfl ?_
              refine g_istore_n (n := 66) (lv' := [(2, vi x27_2), (3, vi (nI i27)), (0, vr 52), (1, vi what)]) ok dX6_fewest_65 rfl (by decide) rfl rfl ?_
              refine g_iinc (n := 69) (v := nI (i27 + 1)) (lv' := [(3, vi (nI (i27 + 1))), (2, vi x27_2), (0, vr 52), (1, vi what)]) ok 1 dX6_fewest_66 rfl (iinc_n (a := i27) rfl) (by decide) rfl rfl ?_
              refine g_goto (tgt := 27) ok dX6_fewest_69 (by decide) ?_
              exact ih (i27 + 1) x27_2 (by first | exact hb | exact Or.inr (vp_nI (by omega) (by omega))) (by omega)
            · rw [if_neg c11]
              refine g_aload_n (n := 53) ok 2 dX6_fewest_52 rfl rfl rfl ?_
              refine g_iload_n (n := 54) ok 0 dX6_fewest_53 rfl rfl rfl ?_
              refine g_callV (n := 57) (rest := []) (av := [vi (nI i27)]) (j := 52) ok (kX6_areApart K5 (nI i27) (by first | with_reducible assumption | omega) hF2) knX6_areApart q1051 q1053 qs59 clsX6 rfl dX6_fewest_54 rfl rfl (Nat.le_of_ble_eq_true rfl) (by decide) (by decide) rfl ?_
              refine g_if_eq (n := 60) (tgt := 64) ok dX6_fewest_57 (by decide) rfl (fun c12 => ?_) (fun c12 => ?_)
              · rw [if_pos c12]
                refine g_iload_n (n := 65) ok 1 dX6_fewest_64 rfl rfl rfl ?_
                refine g_istore_n (n := 66) (lv' := [(2, vi x27_2), (3, vi (nI i27)), (0, vr 52), (1, vi what)]) ok dX6_fewest_65 rfl (by decide) rfl rfl ?_
                refine g_iinc (n := 69) (v := nI (i27 + 1)) (lv' := [(3, vi (nI (i27 + 1))), (2, vi x27_2), (0, vr 52), (1, vi what)]) ok 1 dX6_fewest_66 rfl (iinc_n (a := i27) rfl) (by decide) rfl rfl ?_
                refine g_goto (tgt := 27) ok dX6_fewest_69 (by decide) ?_
                exact ih (i27 + 1) x27_2 (by first | exact hb | exact Or.inr (vp_nI (by omega) (by omega))) (by omega)
              · rw [if_neg c12]
                refine g_iload_n (n := 61) ok 0 dX6_fewest_60 rfl rfl rfl ?_
                refine g_goto (tgt := 65) ok dX6_fewest_61 (by decide) ?_
                refine g_istore_n (n := 66) (lv' := [(2, vi (nI i27)), (3, vi (nI i27)), (0, vr 52), (1, vi what)]) ok dX6_fewest_65 rfl (by decide) rfl rfl ?_
                refine g_iinc (n := 69) (v := nI (i27 + 1)) (lv' := [(3, vi (nI (i27 + 1))), (2, vi (nI i27)), (0, vr 52), (1, vi what)]) ok 1 dX6_fewest_66 rfl (iinc_n (a := i27) rfl) (by decide) rfl rfl ?_
                refine g_goto (tgt := 27) ok dX6_fewest_69 (by decide) ?_
                exact ih (i27 + 1) (nI i27) (by first | exact hb | exact Or.inr (vp_nI (by omega) (by omega))) (by omega)
      exact L27 (2 ^ ix (K5 52 5)) 0 (-9) (Or.inl rfl) (by omega)
    · rw [if_pos c3]
      refine g_aload_n (n := 16) ok 0 dX6_fewest_15 rfl rfl rfl ?_
      refine g_bipush (n := 18) (v := -2) ok dX6_fewest_16 rfl rfl ?_
      refine g_callV (n := 21) (rest := []) (av := [vi (-2)]) (j := 52) ok (kX6_refuse K5 (-2) (vp_b (by decide +kernel))) knX6_refuse q770 q772 qs25 clsX6 rfl dX6_fewest_18 rfl rfl (Nat.le_of_ble_eq_true rfl) (by decide) (by decide) rfl ?_
      exact g_iret ok hr dX6_fewest_21
  exact C5_13 _ (by rw [up_k (by omega)]; exact hd) (fun n hn => by rw [up_ne2 (by omega)]; exact hF n hn)

noncomputable def fX6_marksOf (a0 : Int32) (a1 : Int32) (a2 : Int32) : Int32 :=
  ((a0 * ((60 * a1) - (a1 * a1))) + ((100 - a0) * ((40 * a2) + ((a2 * a2) / 4)))) / 100
theorem knX6_marksOf : Kn yX6_marksOf cX6_marksOf 3 (some .int) 3 := ⟨q1064, q8, ⟨by decide, by decide⟩, by decide +kernel⟩
set_option maxHeartbeats 400000 in
set_option maxRecDepth 100000 in
theorem kX6_marksOf (I : HI) (a0 : Int32) (a1 : Int32) (a2 : Int32) : Cx yX6_marksOf cX6_marksOf 3 (some .int) 0 0 [vi a0, vi a1, vi a2] I ((some (vi ((fX6_marksOf a0 a1 a2))), I)) := by
  refine Cx.mk (lv := [(0, vi a0), (1, vi a1), (2, vi a2)]) (by decide) (Nat.le_of_ble_eq_true rfl) rfl (fun E ok hr => ?_)
  rw [fX6_marksOf]
  refine g_iload_n (n := 1) ok 0 dX6_marksOf_0 rfl rfl rfl ?_
  refine g_bipush (n := 3) (v := 60) ok dX6_marksOf_1 rfl rfl ?_
  refine g_iload_n (n := 4) ok 1 dX6_marksOf_3 rfl rfl rfl ?_
  refine g_imul (n := 5) ok dX6_marksOf_4 rfl ?_
  refine g_iload_n (n := 6) ok 1 dX6_marksOf_5 rfl rfl rfl ?_
  refine g_iload_n (n := 7) ok 1 dX6_marksOf_6 rfl rfl rfl ?_
  refine g_imul (n := 8) ok dX6_marksOf_7 rfl ?_
  refine g_isub (n := 9) ok dX6_marksOf_8 rfl ?_
  refine g_imul (n := 10) ok dX6_marksOf_9 rfl ?_
  refine g_bipush (n := 12) (v := 100) ok dX6_marksOf_10 rfl rfl ?_
  refine g_iload_n (n := 13) ok 0 dX6_marksOf_12 rfl rfl rfl ?_
  refine g_isub (n := 14) ok dX6_marksOf_13 rfl ?_
  refine g_bipush (n := 16) (v := 40) ok dX6_marksOf_14 rfl rfl ?_
  refine g_iload_n (n := 17) ok 2 dX6_marksOf_16 rfl rfl rfl ?_
  refine g_imul (n := 18) ok dX6_marksOf_17 rfl ?_
  refine g_iload_n (n := 19) ok 2 dX6_marksOf_18 rfl rfl rfl ?_
  refine g_iload_n (n := 20) ok 2 dX6_marksOf_19 rfl rfl rfl ?_
  refine g_imul (n := 21) ok dX6_marksOf_20 rfl ?_
  refine g_iconst (n := 22) (v := 4) ok dX6_marksOf_21 rfl rfl ?_
  refine g_idiv (n := 23) ok dX6_marksOf_22 (by decide) rfl ?_
  refine g_iadd (n := 24) ok dX6_marksOf_23 rfl ?_
  refine g_imul (n := 25) ok dX6_marksOf_24 rfl ?_
  refine g_iadd (n := 26) ok dX6_marksOf_25 rfl ?_
  refine g_bipush (n := 28) (v := 100) ok dX6_marksOf_26 rfl rfl ?_
  refine g_idiv (n := 29) ok dX6_marksOf_28 (by decide) rfl ?_
  exact g_iret ok hr dX6_marksOf_29

noncomputable def fX6_bestHours_x4 (x4_2 : Nat) : Nat :=
  x4_2
noncomputable def fX6_bestHours_b4 (weight : Int32) (h : Nat) (i4 : Nat) (x4_2 : Nat) : Nat :=
  if fX6_marksOf weight (nI i4) ((nI h) - (nI i4)) ≤ fX6_marksOf weight (nI x4_2) ((nI h) - (nI x4_2)) then x4_2 else i4
noncomputable def fX6_bestHours (weight : Int32) (h : Nat) : Nat :=
  fX6_bestHours_x4 (fo ((h + 1) - 1) 1 (fun (i : Nat) (s : Nat) => fX6_bestHours_b4 weight h i s) 0)
theorem knX6_bestHours : Kn yX6_bestHours cX6_bestHours 4 (some .int) 2 := ⟨q1061, q8, ⟨by decide, by decide⟩, by decide +kernel⟩
set_option maxHeartbeats 400000 in
set_option maxRecDepth 100000 in
theorem kX6_bestHours (I : HI) (weight : Int32) (h : Nat) (hh : h ≤ 40) : Cx yX6_bestHours cX6_bestHours 4 (some .int) 1 22 [vi weight, vi (nI h)] I ((some (vi (nI (fX6_bestHours weight h))), I)) := by
  refine Cx.mk (lv := [(0, vi weight), (1, vi (nI h))]) (by decide) (Nat.le_of_ble_eq_true rfl) rfl (fun E ok hr => ?_)
  rw [fX6_bestHours]
  refine g_iconst (n := 1) (v := 0) ok dX6_bestHours_0 rfl rfl ?_
  refine g_istore_n (n := 2) (lv' := [(2, vi 0), (0, vi weight), (1, vi (nI h))]) ok dX6_bestHours_1 rfl (by decide) rfl rfl ?_
  refine g_iconst (n := 3) (v := 1) ok dX6_bestHours_2 rfl rfl ?_
  refine g_istore_n (n := 4) (lv' := [(3, vi 1), (2, vi 0), (0, vi weight), (1, vi (nI h))]) ok dX6_bestHours_3 rfl (by decide) rfl rfl ?_
  have X4 : ∀ (x4_2 : Nat), G E 4 ((some (vi (nI (fX6_bestHours_x4 x4_2))), I)) I 40 [(2, vi (nI x4_2))] [] := by
    intro x4_2
    rw [fX6_bestHours_x4]
    refine g_iload_n (n := 41) ok 0 dX6_bestHours_40 rfl rfl rfl ?_
    exact g_iret ok hr dX6_bestHours_41
  have L4 : ∀ (n4 i4 : Nat) (x4_2 : Nat) (hi : i4 + n4 = h + 1), G E 4 ((some (vi (nI (fX6_bestHours_x4 (fo n4 i4 (fun (i : Nat) (s : Nat) => fX6_bestHours_b4 weight h i s) x4_2)))), I)) I 4 [(3, vi (nI i4)), (2, vi (nI x4_2)), (0, vi weight), (1, vi (nI h))] [] := by
    intro n4
    induction n4 with
    | zero =>
      intro i4 x4_2 hi
      rw [fo_0]
      refine g_iload_n (n := 5) ok 0 dX6_bestHours_4 rfl rfl rfl ?_
      refine g_iload_n (n := 6) ok 3 dX6_bestHours_5 rfl rfl rfl ?_
      refine g_icmp_gt (n := 9) (tgt := 40) ok dX6_bestHours_6 (by decide) rfl (fun c => ?_) (fun c => absurd (nlt (a := h) (b := i4) rfl rfl (by omega) (by omega)) c)
      refine g_sub [1] rfl ?_
      exact X4 _
    | succ n4 ih =>
      intro i4 x4_2 hi
      refine g_iload_n (n := 5) ok 0 dX6_bestHours_4 rfl rfl rfl ?_
      refine g_iload_n (n := 6) ok 3 dX6_bestHours_5 rfl rfl rfl ?_
      refine g_icmp_gt (n := 9) (tgt := 40) ok dX6_bestHours_6 (by decide) rfl (fun c => absurd c (nnlt (a := h) (b := i4) rfl rfl (by omega) (by omega))) (fun c => ?_)
      rw [fo_s]
      show G E 4 ((some (vi (nI (fX6_bestHours_x4 (fo n4 (i4 + 1) (fun (i : Nat) (s : Nat) => fX6_bestHours_b4 weight h i s) (fX6_bestHours_b4 weight h i4 x4_2))))), I)) _ _ _ _
      rw [fX6_bestHours_b4]
      refine g_iload_n (n := 10) ok 2 dX6_bestHours_9 rfl rfl rfl ?_
      refine g_iload_n (n := 11) ok 0 dX6_bestHours_10 rfl rfl rfl ?_
      refine g_iload_n (n := 12) ok 3 dX6_bestHours_11 rfl rfl rfl ?_
      refine g_iload_n (n := 13) ok 0 dX6_bestHours_12 rfl rfl rfl ?_
      refine g_isub (n := 14) ok dX6_bestHours_13 rfl ?_
      refine g_callS (n := 17) (rest := []) (av := [vi weight, vi (nI i4), vi ((nI h) - (nI i4))]) ok (kX6_marksOf I weight (nI i4) ((nI h) - (nI i4))) knX6_marksOf q1062 q1063 dX6_bestHours_14 rfl rfl (Nat.le_of_ble_eq_true rfl) (by decide) (by decide) rfl ?_
      refine g_iload_n (n := 18) ok 2 dX6_bestHours_17 rfl rfl rfl ?_
      refine g_iload_n (n := 19) ok 1 dX6_bestHours_18 rfl rfl rfl ?_
      refine g_iload_n (n := 20) ok 3 dX6_bestHours_19 rfl rfl rfl ?_
      refine g_iload_n (n := 21) ok 1 dX6_bestHours_20 rfl rfl rfl ?_
      refine g_isub (n := 22) ok dX6_bestHours_21 rfl ?_
      refine g_callS (n := 25) (rest := [vi (fX6_marksOf weight (nI i4) ((nI h) - (nI i4)))]) (av := [vi weight, vi (nI x4_2), vi ((nI h) - (nI x4_2))]) ok (kX6_marksOf I weight (nI x4_2) ((nI h) - (nI x4_2))) knX6_marksOf q1062 q1063 dX6_bestHours_22 rfl rfl (Nat.le_of_ble_eq_true rfl) (by decide) (by decide) rfl ?_
      refine g_icmp_le (n := 28) (tgt := 32) ok dX6_bestHours_25 (by decide) rfl (fun c1 => ?_) (fun c1 => ?_)
      · rw [if_pos c1]
        refine g_iload_n (n := 33) ok 1 dX6_bestHours_32 rfl rfl rfl ?_
        refine g_istore_n (n := 34) (lv' := [(2, vi (nI x4_2)), (3, vi (nI i4)), (0, vi weight), (1, vi (nI h))]) ok dX6_bestHours_33 rfl (by decide) rfl rfl ?_
        refine g_iinc (n := 37) (v := nI (i4 + 1)) (lv' := [(3, vi (nI (i4 + 1))), (2, vi (nI x4_2)), (0, vi weight), (1, vi (nI h))]) ok 1 dX6_bestHours_34 rfl (iinc_n (a := i4) rfl) (by decide) rfl rfl ?_
        refine g_goto (tgt := 4) ok dX6_bestHours_37 (by decide) ?_
        exact ih (i4 + 1) x4_2 (by omega)
      · rw [if_neg c1]
        refine g_iload_n (n := 29) ok 0 dX6_bestHours_28 rfl rfl rfl ?_
        refine g_goto (tgt := 33) ok dX6_bestHours_29 (by decide) ?_
        refine g_istore_n (n := 34) (lv' := [(2, vi (nI i4)), (3, vi (nI i4)), (0, vi weight), (1, vi (nI h))]) ok dX6_bestHours_33 rfl (by decide) rfl rfl ?_
        refine g_iinc (n := 37) (v := nI (i4 + 1)) (lv' := [(3, vi (nI (i4 + 1))), (2, vi (nI i4)), (0, vi weight), (1, vi (nI h))]) ok 1 dX6_bestHours_34 rfl (iinc_n (a := i4) rfl) (by decide) rfl rfl ?_
        refine g_goto (tgt := 4) ok dX6_bestHours_37 (by decide) ?_
        exact ih (i4 + 1) i4 (by omega)
  exact L4 ((h + 1) - 1) 1 0 (by omega)

noncomputable def fX6_hours_c5 (h : Int32) (what : Int32) (K5 : HI) : Int32 × HI :=
  if fX6_wrongNumber h 0 40 = 0 then (if fX6_in what.toInt64 0 1 = 0 then ((fX6_refuse K5 (-2)).1, ((fX6_refuse K5 (-2)).2)) else (if what = 0 then (nI (fX6_bestHours (K5 55 2) (ix h)), K5) else (fX6_marksOf (K5 55 2) (nI (fX6_bestHours (K5 55 2) (ix h))) (h - (nI (fX6_bestHours (K5 55 2) (ix h)))), K5))) else ((fX6_refuse K5 (fX6_wrongNumber h 0 40)).1, ((fX6_refuse K5 (fX6_wrongNumber h 0 40)).2))
noncomputable def fX6_hours (I : HI) (h : Int32) (what : Int32) : Int32 × HI :=
  fX6_hours_c5 h what (up I 52 10 0)
theorem knX6_hours : Kn yX6_hours cX6_hours 5 (some .int) 2 := ⟨q1058, q8, ⟨by decide, by decide⟩, by decide +kernel⟩
set_option maxHeartbeats 400000 in
set_option maxRecDepth 100000 in
theorem kX6_hours (I : HI) (h : Int32) (what : Int32) : Cx yX6_hours cX6_hours 5 (some .int) 2 45 [vr 52, vi h, vi what] I ((some (vi (((fX6_hours I h what).1))), (fX6_hours I h what).2)) := by
  refine Cx.mk (lv := [(0, vr 52), (1, vi h), (2, vi what)]) (by decide) (Nat.le_of_ble_eq_true rfl) rfl (fun E ok hr => ?_)
  rw [fX6_hours]
  refine g_aload_n (n := 1) ok 0 dX6_hours_0 rfl rfl rfl ?_
  refine g_iconst (n := 2) (v := 0) ok dX6_hours_1 rfl rfl ?_
  refine g_put (n := 5) (J := up I 52 10 0) (c := 6) (k := 10) ok dX6_hours_2 clsX6 tyX6 tyX6_ok nmX6 (by decide) q688 rfl rfl (fun _ => rfl) (fun _ => rfl) (Nat.le_of_ble_eq_true rfl) (fs_6_10 _ _ _) up_ne rfl ?_
  have C5_14 : ∀ (K5 : HI), G E 5 ((some (vi (((fX6_hours_c5 h what K5).1))), (fX6_hours_c5 h what K5).2)) K5 5 [(0, vr 52), (1, vi h), (2, vi what)] [] := by
    intro K5
    rw [fX6_hours_c5]
    refine g_iload_n (n := 6) ok 1 dX6_hours_5 rfl rfl rfl ?_
    refine g_iconst (n := 7) (v := 0) ok dX6_hours_6 rfl rfl ?_
    refine g_bipush (n := 9) (v := 40) ok dX6_hours_7 rfl rfl ?_
    refine g_callS (n := 12) (rest := []) (av := [vi h, vi 0, vi 40]) ok (kX6_wrongNumber K5 h 0 40) knX6_wrongNumber q895 q896 dX6_hours_9 rfl rfl (Nat.le_of_ble_eq_true rfl) (by decide) (by decide) rfl ?_
    refine g_istore_n (n := 13) (lv' := [(3, vi (fX6_wrongNumber h 0 40)), (0, vr 52), (1, vi h), (2, vi what)]) ok dX6_hours_12 rfl (by decide) rfl rfl ?_
    refine g_iload_n (n := 14) ok 0 dX6_hours_13 rfl rfl rfl ?_
    refine g_if_ne (n := 17) (tgt := 32) ok dX6_hours_14 (by decide) rfl (fun c4 => ?_) (fun c4 => ?_)
    · rw [if_neg c4]
      refine g_iload_n (n := 33) ok 0 dX6_hours_32 rfl rfl rfl ?_
      refine g_istore_n (n := 34) (lv' := [(3, vi (fX6_wrongNumber h 0 40)), (0, vr 52), (1, vi h), (2, vi what)]) ok dX6_hours_33 rfl (by decide) rfl rfl ?_
      refine g_iload_n (n := 35) ok 0 dX6_hours_34 rfl rfl rfl ?_
      refine g_if_ge (n := 38) (tgt := 44) ok dX6_hours_35 (by decide) rfl (fun c5 => ?_) (fun c5 => ?_)
      · exact absurd c5 (wrongNumber_neg c4)
      · refine g_aload_n (n := 39) ok 1 dX6_hours_38 rfl rfl rfl ?_
        refine g_iload_n (n := 40) ok 0 dX6_hours_39 rfl rfl rfl ?_
        refine g_callV (n := 43) (rest := []) (av := [vi (fX6_wrongNumber h 0 40)]) (j := 52) ok (kX6_refuse K5 (fX6_wrongNumber h 0 40) wrongNumber_in) knX6_refuse q770 q772 qs25 clsX6 rfl dX6_hours_40 rfl rfl (Nat.le_of_ble_eq_true rfl) (by decide) (by decide) rfl ?_
        exact g_iret ok hr dX6_hours_43
    · rw [if_pos c4]
      refine g_iload_n (n := 18) ok 3 dX6_hours_17 rfl rfl rfl ?_
      refine g_i2l (n := 19) ok dX6_hours_18 rfl ?_
      refine g_lconst (n := 20) (v := 0) ok dX6_hours_19 rfl rfl ?_
      refine g_lconst (n := 21) (v := 1) ok dX6_hours_20 rfl rfl ?_
      refine g_callS (n := 24) (rest := []) (av := [vl what.toInt64, vl 0, vl 1]) ok (kX6_in K5 what.toInt64 0 1) knX6_in q792 q793 dX6_hours_21 rfl rfl (Nat.le_of_ble_eq_true rfl) (by decide) (by decide) rfl ?_
      refine g_if_ne (n := 27) (tgt := 32) ok dX6_hours_24 (by decide) rfl (fun c6 => ?_) (fun c6 => ?_)
      · rw [if_neg c6]
        have ha7 : vp_in what 2 := in6_in (b := 1) c6 (by omega)
        have ha7b := vb ha7
        refine g_iload_n (n := 33) ok 0 dX6_hours_32 rfl rfl rfl ?_
        refine g_istore_n (n := 34) (lv' := [(3, vi (fX6_wrongNumber h 0 40)), (0, vr 52), (1, vi h), (2, vi what)]) ok dX6_hours_33 rfl (by decide) rfl rfl ?_
        refine g_iload_n (n := 35) ok 0 dX6_hours_34 rfl rfl rfl ?_
        refine g_if_ge (n := 38) (tgt := 44) ok dX6_hours_35 (by decide) rfl (fun c8 => ?_) (fun c8 => ?_)
        · have ha9 : vp_in h 41 := wrongNumber_in10 (b := 40) c8 (by decide) (by omega)
          have ha9b := vb ha9
          refine g_aload_n (n := 45) ok 1 dX6_hours_44 rfl rfl rfl ?_
          refine g_get (n := 48) (v := vr 55) (c := 6) (k := 2) ok dX6_hours_45 clsX6 (by decide) q680 rfl rfl rfl ?_
          refine g_iconst (n := 49) (v := 2) ok dX6_hours_48 rfl rfl ?_
          refine g_iald (n := 50) (i := 2) (L := 5) ok dX6_hours_49 rfl rfl rfl (by omega) rfl ?_
          refine g_iload_n (n := 51) ok 2 dX6_hours_50 rfl rfl rfl ?_
          refine g_callS (n := 54) (rest := []) (av := [vi (K5 55 2), vi (nI (ix h))]) ok (kX6_bestHours K5 (K5 55 2) (ix h) (by first | with_reducible assumption | omega)) knX6_bestHours q1059 q1060 dX6_hours_51 (lcons (congrArg vi (vx ha9)) (lcons rfl rfl)) rfl (Nat.le_of_ble_eq_true rfl) (by decide) (by decide) rfl ?_
          refine g_istore (n := 56) (lv' := [(4, vi (nI (fX6_bestHours (K5 55 2) (ix h)))), (3, vi (fX6_wrongNumber h 0 40)), (0, vr 52), (1, vi h), (2, vi what)]) ok dX6_hours_54 (by decide) rfl rfl ?_
          refine g_iload_n (n := 57) ok 4 dX6_hours_56 rfl rfl rfl ?_
          refine g_if_ne (n := 60) (tgt := 65) ok dX6_hours_57 (by decide) rfl (fun c10 => ?_) (fun c10 => ?_)
          · rw [if_neg c10]
            have hz11 := ixn (n := 0) ha7 c10 (by omega) (by omega)
            refine g_aload_n (n := 66) ok 2 dX6_hours_65 rfl rfl rfl ?_
            refine g_get (n := 69) (v := vr 55) (c := 6) (k := 2) ok dX6_hours_66 clsX6 (by decide) q680 rfl rfl rfl ?_
            refine g_iconst (n := 70) (v := 2) ok dX6_hours_69 rfl rfl ?_
            refine g_iald (n := 71) (i := 2) (L := 5) ok dX6_hours_70 rfl rfl rfl (by omega) rfl ?_
            refine g_iload (n := 73) ok 0 dX6_hours_71 rfl rfl ?_
            refine g_iload_n (n := 74) ok 3 dX6_hours_73 rfl rfl rfl ?_
            refine g_iload (n := 76) ok 0 dX6_hours_74 rfl rfl ?_
            refine g_isub (n := 77) ok dX6_hours_76 rfl ?_
            refine g_callS (n := 80) (rest := []) (av := [vi (K5 55 2), vi (nI (fX6_bestHours (K5 55 2) (ix h))), vi (h - (nI (fX6_bestHours (K5 55 2) (ix h))))]) ok (kX6_marksOf K5 (K5 55 2) (nI (fX6_bestHours (K5 55 2) (ix h))) (h - (nI (fX6_bestHours (K5 55 2) (ix h))))) knX6_marksOf q1062 q1063 dX6_hours_77 rfl rfl (Nat.le_of_ble_eq_true rfl) (by decide) (by decide) rfl ?_
            exact g_iret ok hr dX6_hours_80
          · rw [if_pos c10]
            have hz12 := ixe (n := 0) ha7 c10 (by omega) (by omega)
            refine g_iload (n := 62) ok 0 dX6_hours_60 rfl rfl ?_
            refine g_goto (tgt := 80) ok dX6_hours_62 (by decide) ?_
            exact g_iret ok hr dX6_hours_80
        · exact absurd (wz0 c4) c8
      · rw [if_pos c6]
        refine g_bipush (n := 29) (v := -2) ok dX6_hours_27 rfl rfl ?_
        refine g_goto (tgt := 33) ok dX6_hours_29 (by decide) ?_
        refine g_istore_n (n := 34) (lv' := [(3, vi (-2)), (0, vr 52), (1, vi h), (2, vi what)]) ok dX6_hours_33 rfl (by decide) rfl rfl ?_
        refine g_iload_n (n := 35) ok 0 dX6_hours_34 rfl rfl rfl ?_
        refine g_if_ge (n := 38) (tgt := 44) ok dX6_hours_35 (by decide) rfl (fun c13 => ?_) (fun c13 => ?_)
        · exact absurd c13 (by decide)
        · refine g_aload_n (n := 39) ok 1 dX6_hours_38 rfl rfl rfl ?_
          refine g_iload_n (n := 40) ok 0 dX6_hours_39 rfl rfl rfl ?_
          refine g_callV (n := 43) (rest := []) (av := [vi (-2)]) (j := 52) ok (kX6_refuse K5 (-2) (vp_b (by decide +kernel))) knX6_refuse q770 q772 qs25 clsX6 rfl dX6_hours_40 rfl rfl (Nat.le_of_ble_eq_true rfl) (by decide) (by decide) rfl ?_
          exact g_iret ok hr dX6_hours_43
  exact C5_14 _

noncomputable def fX6_won_x29 (K5 : HI) (x29_2 : Nat) : Int32 × HI :=
  ((-9), K5)
noncomputable def fX6_won_b29 (h : Int32) (K5 : HI) (x29_2 : Nat) : (Int32 × HI) ⊕ (Nat) :=
  if 100 < nI x29_2 then Sum.inl (fX6_won_x29 K5 x29_2) else (if nI (fX6_bestHours (nI x29_2) (ix h)) ≤ 0 then Sum.inr (x29_2 + 10) else Sum.inl (nI x29_2, K5))
noncomputable def fX6_won_c5 (h : Int32) (K5 : HI) : Int32 × HI :=
  if 0 ≤ fX6_wrongNumber h 0 40 then whE 120 (fun (s : Nat) => fX6_won_b29 h K5 s) ((-9), K5) 0 else ((fX6_refuse K5 (fX6_wrongNumber h 0 40)).1, ((fX6_refuse K5 (fX6_wrongNumber h 0 40)).2))
noncomputable def fX6_won (I : HI) (h : Int32) : Int32 × HI :=
  fX6_won_c5 h (up I 52 10 0)
theorem knX6_won : Kn yX6_won cX6_won 3 (some .int) 1 := ⟨q1068, q8, ⟨by decide, by decide⟩, by decide +kernel⟩
set_option maxHeartbeats 400000 in
set_option maxRecDepth 100000 in
theorem kX6_won (I : HI) (h : Int32) : Cx yX6_won cX6_won 3 (some .int) 2 45 [vr 52, vi h] I ((some (vi (((fX6_won I h).1))), (fX6_won I h).2)) := by
  refine Cx.mk (lv := [(0, vr 52), (1, vi h)]) (by decide) (Nat.le_of_ble_eq_true rfl) rfl (fun E ok hr => ?_)
  rw [fX6_won]
  refine g_aload_n (n := 1) ok 0 dX6_won_0 rfl rfl rfl ?_
  refine g_iconst (n := 2) (v := 0) ok dX6_won_1 rfl rfl ?_
  refine g_put (n := 5) (J := up I 52 10 0) (c := 6) (k := 10) ok dX6_won_2 clsX6 tyX6 tyX6_ok nmX6 (by decide) q688 rfl rfl (fun _ => rfl) (fun _ => rfl) (Nat.le_of_ble_eq_true rfl) (fs_6_10 _ _ _) up_ne rfl ?_
  have C5_7 : ∀ (K5 : HI), G E 3 ((some (vi (((fX6_won_c5 h K5).1))), (fX6_won_c5 h K5).2)) K5 5 [(0, vr 52), (1, vi h)] [] := by
    intro K5
    rw [fX6_won_c5]
    refine g_iload_n (n := 6) ok 1 dX6_won_5 rfl rfl rfl ?_
    refine g_iconst (n := 7) (v := 0) ok dX6_won_6 rfl rfl ?_
    refine g_bipush (n := 9) (v := 40) ok dX6_won_7 rfl rfl ?_
    refine g_callS (n := 12) (rest := []) (av := [vi h, vi 0, vi 40]) ok (kX6_wrongNumber K5 h 0 40) knX6_wrongNumber q895 q896 dX6_won_9 rfl rfl (Nat.le_of_ble_eq_true rfl) (by decide) (by decide) rfl ?_
    refine g_if_ge (n := 15) (tgt := 27) ok dX6_won_12 (by decide) rfl (fun c3 => ?_) (fun c3 => ?_)
    · rw [if_pos c3]
      have ha4 : vp_in h 41 := wrongNumber_in10 (b := 40) c3 (by decide) (by omega)
      have ha4b := vb ha4
      refine g_iconst (n := 28) (v := 0) ok dX6_won_27 rfl rfl ?_
      refine g_istore_n (n := 29) (lv' := [(2, vi 0), (0, vr 52), (1, vi h)]) ok dX6_won_28 rfl (by decide) rfl rfl ?_
      have X29 : ∀ (x29_2 : Nat) (hw : x29_2 ≤ 110), G E 3 ((some (vi (((fX6_won_x29 K5 x29_2).1))), (fX6_won_x29 K5 x29_2).2)) K5 51 [] [] := by
        intro x29_2 hw
        rw [fX6_won_x29]
        refine g_bipush (n := 53) (v := -9) ok dX6_won_51 rfl rfl ?_
        exact g_iret ok hr dX6_won_53
      have L29 : ∀ (n29 : Nat) (x29_2 : Nat) (hw : x29_2 ≤ 110) (hm : 110 - x29_2 < n29), G E 3 ((some (vi (((whE n29 (fun (s : Nat) => fX6_won_b29 h K5 s) ((-9), K5) x29_2).1))), (whE n29 (fun (s : Nat) => fX6_won_b29 h K5 s) ((-9), K5) x29_2).2)) K5 29 [(2, vi (nI x29_2)), (1, vi h)] [] := by
        intro n29
        induction n29 with
        | zero =>
          intro x29_2 hw hm
          exact absurd hm (Nat.not_lt_zero _)
        | succ n29 ih =>
          intro x29_2 hw hm
          rw [whE_s]
          show G E 3 ((some (vi (((Sum.elim id (fun (s : Nat) => whE n29 (fun (s : Nat) => fX6_won_b29 h K5 s) ((-9), K5) s) (fX6_won_b29 h K5 x29_2)).1))), (Sum.elim id (fun (s : Nat) => whE n29 (fun (s : Nat) => fX6_won_b29 h K5 s) ((-9), K5) s) (fX6_won_b29 h K5 x29_2)).2)) _ _ _ _
          rw [fX6_won_b29]
          refine g_iload_n (n := 30) ok 0 dX6_won_29 rfl rfl rfl ?_
          refine g_bipush (n := 32) (v := 100) ok dX6_won_30 rfl rfl ?_
          refine g_icmp_gt (n := 35) (tgt := 51) ok dX6_won_32 (by decide) rfl (fun c5 => ?_) (fun c5 => ?_)
          · rw [if_pos c5]
            refine g_sub [] rfl ?_
            exact X29 x29_2 hw
          · rw [if_neg c5]
            have hle : x29_2 ≤ 100 := le_of_nnlt (b := 100) c5 (by omega)
            refine g_iload_n (n := 36) ok 0 dX6_won_35 rfl rfl rfl ?_
            refine g_iload_n (n := 37) ok 1 dX6_won_36 rfl rfl rfl ?_
            refine g_callS (n := 40) (rest := []) (av := [vi (nI x29_2), vi (nI (ix h))]) ok (kX6_bestHours K5 (nI x29_2) (ix h) (by first | with_reducible assumption | omega)) knX6_bestHours q1059 q1060 dX6_won_37 (lcons (congrArg vi (vx ha4)) (lcons rfl rfl)) rfl (Nat.le_of_ble_eq_true rfl) (by decide) (by decide) rfl ?_
            refine g_if_le (n := 43) (tgt := 45) ok dX6_won_40 (by decide) rfl (fun c6 => ?_) (fun c6 => ?_)
            · rw [if_pos c6]
              refine g_iinc (n := 48) (v := nI (x29_2 + 10)) (lv' := [(2, vi (nI (x29_2 + 10))), (1, vi h)]) ok 0 dX6_won_45 rfl (nv_iadd (a := x29_2) (b := 10) rfl rfl) (by decide) rfl rfl ?_
              refine g_goto (tgt := 29) ok dX6_won_48 (by decide) ?_
              exact ih (x29_2 + 10) (by omega) (by omega)
            · rw [if_neg c6]
              refine g_iload_n (n := 44) ok 0 dX6_won_43 rfl rfl rfl ?_
              exact g_iret ok hr dX6_won_44
      refine g_sub [0, 2] rfl ?_
      exact L29 120 0 (by omega) (by omega)
    · rw [if_neg c3]
      refine g_aload_n (n := 16) ok 0 dX6_won_15 rfl rfl rfl ?_
      refine g_iload_n (n := 17) ok 1 dX6_won_16 rfl rfl rfl ?_
      refine g_iconst (n := 18) (v := 0) ok dX6_won_17 rfl rfl ?_
      refine g_bipush (n := 20) (v := 40) ok dX6_won_18 rfl rfl ?_
      refine g_callS (n := 23) (rest := [vr 52]) (av := [vi h, vi 0, vi 40]) ok (kX6_wrongNumber K5 h 0 40) knX6_wrongNumber q895 q896 dX6_won_20 rfl rfl (Nat.le_of_ble_eq_true rfl) (by decide) (by decide) rfl ?_
      refine g_callV (n := 26) (rest := []) (av := [vi (fX6_wrongNumber h 0 40)]) (j := 52) ok (kX6_refuse K5 (fX6_wrongNumber h 0 40) wrongNumber_in) knX6_refuse q770 q772 qs25 clsX6 rfl dX6_won_23 rfl rfl (Nat.le_of_ble_eq_true rfl) (by decide) (by decide) rfl ?_
      exact g_iret ok hr dX6_won_26
  exact C5_7 _

noncomputable def fX6_row_c5 (v : Int32) (K5 : HI) : Int32 × HI :=
  if 0 ≤ v then (if 99 < v then ((fX6_refuse K5 (-6)).1, ((fX6_refuse K5 (-6)).2)) else (if K5 52 27 = 12 then ((fX6_refuse K5 (-6)).1, ((fX6_refuse K5 (-6)).2)) else (nI ((ix (K5 52 27)) + 1), (up (up K5 67 (ix (K5 52 27)) v) 52 27 (nI ((ix (K5 52 27)) + 1)))))) else ((fX6_refuse K5 (-4)).1, ((fX6_refuse K5 (-4)).2))
noncomputable def fX6_row (I : HI) (v : Int32) : Int32 × HI :=
  fX6_row_c5 v (up I 52 10 0)
theorem knX6_row : Kn yX6_row cX6_row 2 (some .int) 1 := ⟨q1076, q8, ⟨by decide, by decide⟩, by decide +kernel⟩
set_option maxHeartbeats 400000 in
set_option maxRecDepth 100000 in
theorem kX6_row (I : HI) (v : Int32) (hr9 : vp_in (I 52 27) 13) : Cx yX6_row cX6_row 2 (some .int) 1 21 [vr 52, vi v] I ((some (vi (((fX6_row I v).1))), (fX6_row I v).2)) := by
  refine Cx.mk (lv := [(0, vr 52), (1, vi v)]) (by decide) (Nat.le_of_ble_eq_true rfl) rfl (fun E ok hr => ?_)
  rw [fX6_row]
  refine g_aload_n (n := 1) ok 0 dX6_row_0 rfl rfl rfl ?_
  refine g_iconst (n := 2) (v := 0) ok dX6_row_1 rfl rfl ?_
  refine g_put (n := 5) (J := up I 52 10 0) (c := 6) (k := 10) ok dX6_row_2 clsX6 tyX6 tyX6_ok nmX6 (by decide) q688 rfl rfl (fun _ => rfl) (fun _ => rfl) (Nat.le_of_ble_eq_true rfl) (fs_6_10 _ _ _) up_ne rfl ?_
  have C5_8 : ∀ (K5 : HI) (hr92 : vp_in (K5 52 27) 13), G E 2 ((some (vi (((fX6_row_c5 v K5).1))), (fX6_row_c5 v K5).2)) K5 5 [(0, vr 52), (1, vi v)] [] := by
    intro K5 hr92
    rw [fX6_row_c5]
    have hr93 := vb hr92
    refine g_iload_n (n := 6) ok 1 dX6_row_5 rfl rfl rfl ?_
    refine g_if_ge (n := 9) (tgt := 16) ok dX6_row_6 (by decide) rfl (fun c3 => ?_) (fun c3 => ?_)
    · rw [if_pos c3]
      refine g_iload_n (n := 17) ok 1 dX6_row_16 rfl rfl rfl ?_
      refine g_bipush (n := 19) (v := 99) ok dX6_row_17 rfl rfl ?_
      refine g_icmp_gt (n := 22) (tgt := 31) ok dX6_row_19 (by decide) rfl (fun c4 => ?_) (fun c4 => ?_)
      · rw [if_pos c4]
        refine g_aload_n (n := 32) ok 0 dX6_row_31 rfl rfl rfl ?_
        refine g_bipush (n := 34) (v := -6) ok dX6_row_32 rfl rfl ?_
        refine g_callV (n := 37) (rest := []) (av := [vi (-6)]) (j := 52) ok (kX6_refuse K5 (-6) (vp_b (by decide +kernel))) knX6_refuse q770 q772 qs25 clsX6 rfl dX6_row_34 rfl rfl (Nat.le_of_ble_eq_true rfl) (by decide) (by decide) rfl ?_
        exact g_iret ok hr dX6_row_37
      · rw [if_neg c4]
        refine g_aload_n (n := 23) ok 0 dX6_row_22 rfl rfl rfl ?_
        refine g_get (n := 26) (v := vi (K5 52 27)) (c := 6) (k := 27) ok dX6_row_23 clsX6 (by decide) q705 rfl rfl rfl ?_
        refine g_bipush (n := 28) (v := 12) ok dX6_row_26 rfl rfl ?_
        refine g_icmp_ne (n := 31) (tgt := 38) ok dX6_row_28 (by decide) rfl (fun c5 => ?_) (fun c5 => ?_)
        · rw [if_neg c5]
          have hz6 := ixn (n := 12) hr92 c5 (by omega) (by omega)
          refine g_aload_n (n := 39) ok 0 dX6_row_38 rfl rfl rfl ?_
          refine g_get (n := 42) (v := vr 67) (c := 6) (k := 26) ok dX6_row_39 clsX6 (by decide) q704 rfl rfl rfl ?_
          refine g_aload_n (n := 43) ok 0 dX6_row_42 rfl rfl rfl ?_
          refine g_get (n := 46) (v := vi (K5 52 27)) (c := 6) (k := 27) ok dX6_row_43 clsX6 (by decide) q705 rfl rfl rfl ?_
          refine g_iload_n (n := 47) ok 1 dX6_row_46 rfl rfl rfl ?_
          refine g_iast (n := 48) (i := ix (K5 52 27)) (L := 12) ok dX6_row_47 rfl rfl (vx hr92) (by omega) rfl ?_
          refine g_aload_n (n := 49) ok 0 dX6_row_48 rfl rfl rfl ?_
          refine g_dup (n := 50) ok dX6_row_49 rfl rfl ?_
          refine g_get (n := 53) (v := vi ((up K5 67 (ix (K5 52 27)) v) 52 27)) (c := 6) (k := 27) ok dX6_row_50 clsX6 (by decide) q705 rfl rfl rfl ?_
          refine g_top (up_ne2 (by decide)) ?_
          refine g_iconst (n := 54) (v := 1) ok dX6_row_53 rfl rfl ?_
          refine g_iadd (n := 55) ok dX6_row_54 rfl ?_
          refine g_top (nv_iadd (a := ix (K5 52 27)) (b := 1) (vx hr92) rfl) ?_
          refine g_put (n := 58) (J := up (up K5 67 (ix (K5 52 27)) v) 52 27 (nI ((ix (K5 52 27)) + 1))) (c := 6) (k := 27) ok dX6_row_55 clsX6 tyX6 tyX6_ok nmX6 (by decide) q705 rfl rfl (fun _ => rfl) (fun _ => rfl) (Nat.le_of_ble_eq_true rfl) (fs_6_27 _ _ _) up_ne rfl ?_
          refine g_aload_n (n := 59) ok 0 dX6_row_58 rfl rfl rfl ?_
          refine g_get (n := 62) (v := vi ((up (up K5 67 (ix (K5 52 27)) v) 52 27 (nI ((ix (K5 52 27)) + 1))) 52 27)) (c := 6) (k := 27) ok dX6_row_59 clsX6 (by decide) q705 rfl rfl rfl ?_
          refine g_top up_v ?_
          exact g_iret ok hr dX6_row_62
        · rw [if_pos c5]
          have hz7 := ixe (n := 12) hr92 c5 (by omega) (by omega)
          refine g_aload_n (n := 32) ok 0 dX6_row_31 rfl rfl rfl ?_
          refine g_bipush (n := 34) (v := -6) ok dX6_row_32 rfl rfl ?_
          refine g_callV (n := 37) (rest := []) (av := [vi (-6)]) (j := 52) ok (kX6_refuse K5 (-6) (vp_b (by decide +kernel))) knX6_refuse q770 q772 qs25 clsX6 rfl dX6_row_34 rfl rfl (Nat.le_of_ble_eq_true rfl) (by decide) (by decide) rfl ?_
          exact g_iret ok hr dX6_row_37
    · rw [if_neg c3]
      refine g_aload_n (n := 10) ok 0 dX6_row_9 rfl rfl rfl ?_
      refine g_bipush (n := 12) (v := -4) ok dX6_row_10 rfl rfl ?_
      refine g_callV (n := 15) (rest := []) (av := [vi (-4)]) (j := 52) ok (kX6_refuse K5 (-4) (vp_b (by decide +kernel))) knX6_refuse q770 q772 qs25 clsX6 rfl dX6_row_12 rfl rfl (Nat.le_of_ble_eq_true rfl) (by decide) (by decide) rfl ?_
      exact g_iret ok hr dX6_row_15
  exact C5_8 _ (by rw [up_k (by omega)]; exact hr9)

noncomputable def fX6_judge_x31 (K5 : HI) : Int32 × HI :=
  ((-9), (up K5 52 27 0))
noncomputable def fX6_judge_b31 (t : Int32) (K5 : HI) (i31 : Nat) : (Int32 × HI) ⊕ (Unit) :=
  if K5 67 i31 = K5 59 ((12 * (ix t)) + i31) then Sum.inr () else Sum.inl (nI i31, (up K5 52 27 0))
noncomputable def fX6_judge_c5 (t : Int32) (K5 : HI) : Int32 × HI :=
  if fX6_isTrace K5 t = 0 then ((fX6_refuse K5 (-1)).1, ((fX6_refuse K5 (-1)).2)) else foE (ix (K5 52 27)) 0 (fun (i : Nat) (_ : Unit) => fX6_judge_b31 t K5 i) (fun (_ : Unit) => fX6_judge_x31 K5) ()
noncomputable def fX6_judge (I : HI) (t : Int32) : Int32 × HI :=
  fX6_judge_c5 t (up I 52 10 0)
theorem knX6_judge : Kn yX6_judge cX6_judge 4 (some .int) 1 := ⟨q1080, q8, ⟨by decide, by decide⟩, by decide +kernel⟩
set_option maxHeartbeats 400000 in
set_option maxRecDepth 100000 in
theorem kX6_judge (I : HI) (t : Int32) (hd : vp_in (I 52 5) 7) (hr9 : vp_in (I 52 27) 13) : Cx yX6_judge cX6_judge 4 (some .int) 2 46 [vr 52, vi t] I ((some (vi (((fX6_judge I t).1))), (fX6_judge I t).2)) := by
  refine Cx.mk (lv := [(0, vr 52), (1, vi t)]) (by decide) (Nat.le_of_ble_eq_true rfl) rfl (fun E ok hr => ?_)
  rw [fX6_judge]
  refine g_aload_n (n := 1) ok 0 dX6_judge_0 rfl rfl rfl ?_
  refine g_iconst (n := 2) (v := 0) ok dX6_judge_1 rfl rfl ?_
  refine g_put (n := 5) (J := up I 52 10 0) (c := 6) (k := 10) ok dX6_judge_2 clsX6 tyX6 tyX6_ok nmX6 (by decide) q688 rfl rfl (fun _ => rfl) (fun _ => rfl) (Nat.le_of_ble_eq_true rfl) (fs_6_10 _ _ _) up_ne rfl ?_
  have C5_6 : ∀ (K5 : HI) (hd2 : vp_in (K5 52 5) 7) (hr92 : vp_in (K5 52 27) 13), G E 4 ((some (vi (((fX6_judge_c5 t K5).1))), (fX6_judge_c5 t K5).2)) K5 5 [(0, vr 52), (1, vi t)] [] := by
    intro K5 hd2 hr92
    rw [fX6_judge_c5]
    have hd3 := vb hd2
    have hr93 := vb hr92
    refine g_aload_n (n := 6) ok 0 dX6_judge_5 rfl rfl rfl ?_
    refine g_iload_n (n := 7) ok 1 dX6_judge_6 rfl rfl rfl ?_
    refine g_callV (n := 10) (rest := []) (av := [vi t]) (j := 52) ok (kX6_isTrace K5 t) knX6_isTrace q919 q921 qs45 clsX6 rfl dX6_judge_7 rfl rfl (Nat.le_of_ble_eq_true rfl) (by decide) (by decide) rfl ?_
    refine g_if_ne (n := 13) (tgt := 19) ok dX6_judge_10 (by decide) rfl (fun c3 => ?_) (fun c3 => ?_)
    · rw [if_neg c3]
      have ha4 : vp_in t 6 := isTrace6_in (by with_reducible assumption) c3
      have ha4b := vb ha4
      refine g_aload_n (n := 20) ok 0 dX6_judge_19 rfl rfl rfl ?_
      refine g_get (n := 23) (v := vi (K5 52 27)) (c := 6) (k := 27) ok dX6_judge_20 clsX6 (by decide) q705 rfl rfl rfl ?_
      refine g_istore_n (n := 24) (lv' := [(2, vi (K5 52 27)), (0, vr 52), (1, vi t)]) ok dX6_judge_23 rfl (by decide) rfl rfl ?_
      refine g_aload_n (n := 25) ok 1 dX6_judge_24 rfl rfl rfl ?_
      refine g_iconst (n := 26) (v := 0) ok dX6_judge_25 rfl rfl ?_
      refine g_put (n := 29) (J := up K5 52 27 0) (c := 6) (k := 27) ok dX6_judge_26 clsX6 tyX6 tyX6_ok nmX6 (by decide) q705 rfl rfl (fun _ => rfl) (fun _ => rfl) (Nat.le_of_ble_eq_true rfl) (fs_6_27 _ _ _) up_ne rfl ?_
      refine g_iconst (n := 30) (v := 0) ok dX6_judge_29 rfl rfl ?_
      refine g_istore_n (n := 31) (lv' := [(3, vi 0), (2, vi (K5 52 27)), (0, vr 52), (1, vi t)]) ok dX6_judge_30 rfl (by decide) rfl rfl ?_
      have X31 : ∀ (_ : True), G E 4 ((some (vi (((fX6_judge_x31 K5).1))), (fX6_judge_x31 K5).2)) (up K5 52 27 0) 64 [] [] := by
        intro _
        rw [fX6_judge_x31]
        refine g_bipush (n := 66) (v := -9) ok dX6_judge_64 rfl rfl ?_
        exact g_iret ok hr dX6_judge_66
      have L31 : ∀ (n31 i31 : Nat) (hi : i31 + n31 = ix (K5 52 27)), G E 4 ((some (vi (((foE n31 i31 (fun (i : Nat) (_ : Unit) => fX6_judge_b31 t K5 i) (fun (_ : Unit) => fX6_judge_x31 K5) ()).1))), (foE n31 i31 (fun (i : Nat) (_ : Unit) => fX6_judge_b31 t K5 i) (fun (_ : Unit) => fX6_judge_x31 K5) ()).2)) (up K5 52 27 0) 31 [(3, vi (nI i31)), (2, vi (K5 52 27)), (0, vr 52), (1, vi t)] [] := by
        intro n31
        induction n31 with
        | zero =>
          intro i31 hi
          rw [foE_0]
          refine g_iload_n (n := 32) ok 0 dX6_judge_31 rfl rfl rfl ?_
          refine g_iload_n (n := 33) ok 1 dX6_judge_32 rfl rfl rfl ?_
          refine g_icmp_ge (n := 36) (tgt := 64) ok dX6_judge_33 (by decide) rfl (fun c => ?_) (fun c => absurd (nle (a := ix (K5 52 27)) (b := i31) (vx hr92) rfl (by omega) (by omega)) c)
          refine g_sub [] rfl ?_
          exact X31 trivial
        | succ n31 ih =>
          intro i31 hi
          refine g_iload_n (n := 32) ok 0 dX6_judge_31 rfl rfl rfl ?_
          refine g_iload_n (n := 33) ok 1 dX6_judge_32 rfl rfl rfl ?_
          refine g_icmp_ge (n := 36) (tgt := 64) ok dX6_judge_33 (by decide) rfl (fun c => absurd c (nnle (a := ix (K5 52 27)) (b := i31) (vx hr92) rfl (by omega) (by omega))) (fun c => ?_)
          rw [foE_s]
          show G E 4 ((some (vi (((Sum.elim id (fun (s : Unit) => foE n31 (i31 + 1) (fun (i : Nat) (_ : Unit) => fX6_judge_b31 t K5 i) (fun (_ : Unit) => fX6_judge_x31 K5) s) (fX6_judge_b31 t K5 i31)).1))), (Sum.elim id (fun (s : Unit) => foE n31 (i31 + 1) (fun (i : Nat) (_ : Unit) => fX6_judge_b31 t K5 i) (fun (_ : Unit) => fX6_judge_x31 K5) s) (fX6_judge_b31 t K5 i31)).2)) _ _ _ _
          rw [fX6_judge_b31]
          refine g_aload_n (n := 37) ok 2 dX6_judge_36 rfl rfl rfl ?_
          refine g_get (n := 40) (v := vr 67) (c := 6) (k := 26) ok dX6_judge_37 clsX6 (by decide) q704 rfl rfl rfl ?_
          refine g_iload_n (n := 41) ok 0 dX6_judge_40 rfl rfl rfl ?_
          refine g_iald (n := 42) (i := i31) (L := 12) ok dX6_judge_41 rfl rfl rfl (by omega) rfl ?_
          refine g_top (up_ne2 (by decide)) ?_
          refine g_aload_n (n := 43) ok 2 dX6_judge_42 rfl rfl rfl ?_
          refine g_get (n := 46) (v := vr 59) (c := 6) (k := 9) ok dX6_judge_43 clsX6 (by decide) q687 rfl rfl rfl ?_
          refine g_bipush (n := 48) (v := 12) ok dX6_judge_46 rfl rfl ?_
          refine g_iload_n (n := 49) ok 3 dX6_judge_48 rfl rfl rfl ?_
          refine g_imul (n := 50) ok dX6_judge_49 rfl ?_
          refine g_top (nv_imul (a := 12) (b := ix t) rfl (vx ha4)) ?_
          refine g_iload_n (n := 51) ok 0 dX6_judge_50 rfl rfl rfl ?_
          refine g_iadd (n := 52) ok dX6_judge_51 rfl ?_
          refine g_top (nv_iadd (a := 12 * (ix t)) (b := i31) rfl rfl) ?_
          refine g_iald (n := 53) (i := (12 * (ix t)) + i31) (L := 324) ok dX6_judge_52 rfl rfl rfl (by omega) rfl ?_
          refine g_top (up_ne2 (by decide)) ?_
          refine g_icmp_eq (n := 56) (tgt := 58) ok dX6_judge_53 (by decide) rfl (fun c5 => ?_) (fun c5 => ?_)
          · rw [if_pos c5]
            refine g_iinc (n := 61) (v := nI (i31 + 1)) (lv' := [(3, vi (nI (i31 + 1))), (2, vi (K5 52 27)), (0, vr 52), (1, vi t)]) ok 0 dX6_judge_58 rfl (iinc_n (a := i31) rfl) (by decide) rfl rfl ?_
            refine g_goto (tgt := 31) ok dX6_judge_61 (by decide) ?_
            exact ih (i31 + 1) (by omega)
          · rw [if_neg c5]
            refine g_iload_n (n := 57) ok 0 dX6_judge_56 rfl rfl rfl ?_
            exact g_iret ok hr dX6_judge_57
      exact L31 (ix (K5 52 27)) 0 (by omega)
    · rw [if_pos c3]
      refine g_aload_n (n := 14) ok 0 dX6_judge_13 rfl rfl rfl ?_
      refine g_iconst (n := 15) (v := -1) ok dX6_judge_14 rfl rfl ?_
      refine g_callV (n := 18) (rest := []) (av := [vi (-1)]) (j := 52) ok (kX6_refuse K5 (-1) (vp_b (by decide +kernel))) knX6_refuse q770 q772 qs25 clsX6 rfl dX6_judge_15 rfl rfl (Nat.le_of_ble_eq_true rfl) (by decide) (by decide) rfl ?_
      exact g_iret ok hr dX6_judge_18
  exact C5_6 _ (by rw [up_k (by omega)]; exact hd) (by rw [up_k (by omega)]; exact hr9)

noncomputable def fX6_clear_c5 (K5 : HI) : Int32 × HI :=
  (K5 52 27, (up K5 52 27 0))
noncomputable def fX6_clear (I : HI) : Int32 × HI :=
  fX6_clear_c5 (up I 52 10 0)
theorem knX6_clear : Kn yX6_clear cX6_clear 2 (some .int) 0 := ⟨q1084, q8, ⟨by decide, by decide⟩, by decide +kernel⟩
set_option maxHeartbeats 400000 in
set_option maxRecDepth 100000 in
theorem kX6_clear (I : HI) : Cx yX6_clear cX6_clear 2 (some .int) 0 0 [vr 52] I ((some (vi (((fX6_clear I).1))), (fX6_clear I).2)) := by
  refine Cx.mk (lv := [(0, vr 52)]) (by decide) (Nat.le_of_ble_eq_true rfl) rfl (fun E ok hr => ?_)
  rw [fX6_clear]
  refine g_aload_n (n := 1) ok 0 dX6_clear_0 rfl rfl rfl ?_
  refine g_iconst (n := 2) (v := 0) ok dX6_clear_1 rfl rfl ?_
  refine g_put (n := 5) (J := up I 52 10 0) (c := 6) (k := 10) ok dX6_clear_2 clsX6 tyX6 tyX6_ok nmX6 (by decide) q688 rfl rfl (fun _ => rfl) (fun _ => rfl) (Nat.le_of_ble_eq_true rfl) (fs_6_10 _ _ _) up_ne rfl ?_
  have C5_2 : ∀ (K5 : HI), G E 2 ((some (vi (((fX6_clear_c5 K5).1))), (fX6_clear_c5 K5).2)) K5 5 [(0, vr 52)] [] := by
    intro K5
    rw [fX6_clear_c5]
    refine g_aload_n (n := 6) ok 0 dX6_clear_5 rfl rfl rfl ?_
    refine g_get (n := 9) (v := vi (K5 52 27)) (c := 6) (k := 27) ok dX6_clear_6 clsX6 (by decide) q705 rfl rfl rfl ?_
    refine g_istore_n (n := 10) (lv' := [(1, vi (K5 52 27)), (0, vr 52)]) ok dX6_clear_9 rfl (by decide) rfl rfl ?_
    refine g_aload_n (n := 11) ok 1 dX6_clear_10 rfl rfl rfl ?_
    refine g_iconst (n := 12) (v := 0) ok dX6_clear_11 rfl rfl ?_
    refine g_put (n := 15) (J := up K5 52 27 0) (c := 6) (k := 27) ok dX6_clear_12 clsX6 tyX6 tyX6_ok nmX6 (by decide) q705 rfl rfl (fun _ => rfl) (fun _ => rfl) (Nat.le_of_ble_eq_true rfl) (fs_6_27 _ _ _) up_ne rfl ?_
    refine g_iload_n (n := 16) ok 0 dX6_clear_15 rfl rfl rfl ?_
    exact g_iret ok hr dX6_clear_16
  exact C5_2 _

noncomputable def fX6_drawn (I : HI) (b : Nat) : Int32 × HI :=
  ((((((I 52 28) * 1103515245) + 12345) &&& 2147483647) / 65536) - (((((I 52 28) * 1103515245) + 12345) &&& 2147483647) / 65536) / (nI b) * (nI b), (up I 52 28 (((I 52 28) * 1103515245) + 12345)))
theorem knX6_drawn : Kn yX6_drawn cX6_drawn 2 (some .int) 1 := ⟨q1092, q8, ⟨by decide, by decide⟩, by decide +kernel⟩
set_option maxHeartbeats 400000 in
set_option maxRecDepth 100000 in
theorem kX6_drawn (I : HI) (b : Nat) (hb : 0 < b) (hb2 : b < 100) : Cx yX6_drawn cX6_drawn 2 (some .int) 0 0 [vr 52, vi (nI b)] I ((some (vi (((fX6_drawn I b).1))), (fX6_drawn I b).2)) := by
  refine Cx.mk (lv := [(0, vr 52), (1, vi (nI b))]) (by decide) (Nat.le_of_ble_eq_true rfl) rfl (fun E ok hr => ?_)
  rw [fX6_drawn]
  refine g_aload_n (n := 1) ok 0 dX6_drawn_0 rfl rfl rfl ?_
  refine g_aload_n (n := 2) ok 0 dX6_drawn_1 rfl rfl rfl ?_
  refine g_get (n := 5) (v := vi (I 52 28)) (c := 6) (k := 28) ok dX6_drawn_2 clsX6 (by decide) q706 rfl rfl rfl ?_
  refine g_ldc_w (n := 8) ok dX6_drawn_5 q1093 rfl ?_
  refine g_imul (n := 9) ok dX6_drawn_8 rfl ?_
  refine g_sipush (n := 12) (v := 12345) ok dX6_drawn_9 rfl rfl ?_
  refine g_iadd (n := 13) ok dX6_drawn_12 rfl ?_
  refine g_put (n := 16) (J := up I 52 28 (((I 52 28) * 1103515245) + 12345)) (c := 6) (k := 28) ok dX6_drawn_13 clsX6 tyX6 tyX6_ok nmX6 (by decide) q706 rfl rfl (fun _ => rfl) (fun _ => rfl) (Nat.le_of_ble_eq_true rfl) (fs_6_28 _ _ _) up_ne rfl ?_
  refine g_aload_n (n := 17) ok 0 dX6_drawn_16 rfl rfl rfl ?_
  refine g_get (n := 20) (v := vi ((up I 52 28 (((I 52 28) * 1103515245) + 12345)) 52 28)) (c := 6) (k := 28) ok dX6_drawn_17 clsX6 (by decide) q706 rfl rfl rfl ?_
  refine g_top up_v ?_
  refine g_ldc_w (n := 23) ok dX6_drawn_20 q1094 rfl ?_
  refine g_iand (n := 24) ok dX6_drawn_23 rfl ?_
  refine g_ldc_w (n := 27) ok dX6_drawn_24 q1095 rfl ?_
  refine g_idiv (n := 28) ok dX6_drawn_27 (by decide) rfl ?_
  refine g_iload_n (n := 29) ok 1 dX6_drawn_28 rfl rfl rfl ?_
  refine g_irem (n := 30) ok dX6_drawn_29 (nI_ne0 (by omega) (by omega)) rfl ?_
  exact g_iret ok hr dX6_drawn_30
theorem drawn6_in {I : HI} {b : Nat} (h0 : 0 < b) (hb : b < 100) : vp_in (fX6_drawn I b).1 b := by
  unfold fX6_drawn
  show vp_in (((_ &&& 2147483647) / 65536) - ((_ &&& 2147483647) / 65536) / nI b * nI b) b
  obtain ⟨k, hk, e⟩ := pk_andE (((I 52 28) * 1103515245) + 12345) (m := 2147483647) 31 (by decide +kernel)
  rw [e, show (65536 : Int32) = nI 65536 from rfl, pk_div hk (by omega) (by omega), pk_rem (by omega) h0 (by omega)]
  exact vp_in_nI (Nat.mod_lt _ h0) (by omega)
theorem drawn6_tr {I : HI} {b : Nat} : (fX6_drawn I b).2 52 5 = I 52 5 := by
  unfold fX6_drawn
  dsimp only
  rw [up_k (by decide)]

noncomputable def fX6_count_x59 (what : Int32) (K5 : HI) (x12_3 : Int32) (x12_2 : Int32) (x59_4 : Int32) : Int32 × HI :=
  if what = 0 then (K5 52 5, K5) else (if what = 1 then (x59_4, K5) else (if what = 2 then (K5 52 3, K5) else (if what = 3 then (K5 52 4, K5) else (if what = 4 then (x12_2, K5) else (if what = 5 then (x12_3, K5) else (if what = 6 then (K5 52 13, K5) else (if what = 7 then (K5 52 27, K5) else (if fX6_in what.toInt64 20 24 = 0 then (if fX6_in what.toInt64 11 16 = 0 then ((-9), K5) else (K5 60 ((ix what) - 10), K5)) else (K5 55 ((ix what) - 20), K5)))))))))
noncomputable def fX6_count_b59 (K5 : HI) (i59 : Nat) (x59_4 : Int32) : Int32 :=
  if K5 56 i59 = 0 then x59_4 + 1 else x59_4 + 0
noncomputable def fX6_count_x12 (what : Int32) (K5 : HI) (x12_3 : Int32) (x12_2 : Int32) : Int32 × HI :=
  fX6_count_x59 what K5 x12_3 x12_2 (fo (ix (K5 52 5)) 0 (fun (i : Nat) (s : Int32) => fX6_count_b59 K5 i s) 0)
noncomputable def fX6_count_b12 (K5 : HI) (i12 : Nat) (x12_3 : Int32) (x12_2 : Int32) : Int32 × Int32 :=
  if K5 54 i12 ≤ 0 then (x12_3 + 0, x12_2 + (K5 53 i12)) else (x12_3 + 1, x12_2 + (K5 53 i12))
noncomputable def fX6_count_c5 (what : Int32) (K5 : HI) : Int32 × HI :=
  (fun (s : Int32 × Int32) => fX6_count_x12 what K5 s.1 s.2) (fo 24 0 (fun (i : Nat) (s : Int32 × Int32) => fX6_count_b12 K5 i s.1 s.2) (0, 0))
noncomputable def fX6_count (I : HI) (what : Int32) : Int32 × HI :=
  fX6_count_c5 what (up I 52 10 0)
theorem knX6_count : Kn yX6_count cX6_count 6 (some .int) 1 := ⟨q1099, q8, ⟨by decide, by decide⟩, by decide +kernel⟩
set_option maxHeartbeats 400000 in
set_option maxRecDepth 100000 in
theorem kX6_count (I : HI) (what : Int32) (hd : vp_in (I 52 5) 7) : Cx yX6_count cX6_count 6 (some .int) 1 25 [vr 52, vi what] I ((some (vi (((fX6_count I what).1))), (fX6_count I what).2)) := by
  refine Cx.mk (lv := [(0, vr 52), (1, vi what)]) (by decide) (Nat.le_of_ble_eq_true rfl) rfl (fun E ok hr => ?_)
  rw [fX6_count]
  refine g_aload_n (n := 1) ok 0 dX6_count_0 rfl rfl rfl ?_
  refine g_iconst (n := 2) (v := 0) ok dX6_count_1 rfl rfl ?_
  refine g_put (n := 5) (J := up I 52 10 0) (c := 6) (k := 10) ok dX6_count_2 clsX6 tyX6 tyX6_ok nmX6 (by decide) q688 rfl rfl (fun _ => rfl) (fun _ => rfl) (Nat.le_of_ble_eq_true rfl) (fs_6_10 _ _ _) up_ne rfl ?_
  have C5_19 : ∀ (K5 : HI) (hd2 : vp_in (K5 52 5) 7), G E 6 ((some (vi (((fX6_count_c5 what K5).1))), (fX6_count_c5 what K5).2)) K5 5 [(0, vr 52), (1, vi what)] [] := by
    intro K5 hd2
    rw [fX6_count_c5]
    have hd3 := vb hd2
    refine g_iconst (n := 6) (v := 0) ok dX6_count_5 rfl rfl ?_
    refine g_istore_n (n := 7) (lv' := [(2, vi 0), (0, vr 52), (1, vi what)]) ok dX6_count_6 rfl (by decide) rfl rfl ?_
    refine g_iconst (n := 8) (v := 0) ok dX6_count_7 rfl rfl ?_
    refine g_istore_n (n := 9) (lv' := [(3, vi 0), (2, vi 0), (0, vr 52), (1, vi what)]) ok dX6_count_8 rfl (by decide) rfl rfl ?_
    refine g_iconst (n := 10) (v := 0) ok dX6_count_9 rfl rfl ?_
    refine g_istore (n := 12) (lv' := [(4, vi 0), (3, vi 0), (2, vi 0), (0, vr 52), (1, vi what)]) ok dX6_count_10 (by decide) rfl rfl ?_
    have X12 : ∀ (x12_3 : Int32) (x12_2 : Int32), G E 6 ((some (vi (((fX6_count_x12 what K5 x12_3 x12_2).1))), (fX6_count_x12 what K5 x12_3 x12_2).2)) K5 53 [(3, vi x12_3), (2, vi x12_2), (0, vr 52), (1, vi what)] [] := by
      intro x12_3 x12_2
      rw [fX6_count_x12]
      refine g_iconst (n := 54) (v := 0) ok dX6_count_53 rfl rfl ?_
      refine g_istore (n := 56) (lv' := [(4, vi 0), (3, vi x12_3), (2, vi x12_2), (0, vr 52), (1, vi what)]) ok dX6_count_54 (by decide) rfl rfl ?_
      refine g_iconst (n := 57) (v := 0) ok dX6_count_56 rfl rfl ?_
      refine g_istore (n := 59) (lv' := [(5, vi 0), (4, vi 0), (3, vi x12_3), (2, vi x12_2), (0, vr 52), (1, vi what)]) ok dX6_count_57 (by decide) rfl rfl ?_
      have X59 : ∀ (x59_4 : Int32), G E 6 ((some (vi (((fX6_count_x59 what K5 x12_3 x12_2 x59_4).1))), (fX6_count_x59 what K5 x12_3 x12_2 x59_4).2)) K5 94 [(4, vi x59_4), (3, vi x12_3), (2, vi x12_2), (0, vr 52), (1, vi what)] [] := by
        intro x59_4
        rw [fX6_count_x59]
        refine g_iload_n (n := 95) ok 4 dX6_count_94 rfl rfl rfl ?_
        by_cases c3 : what = 0
        · rw [if_pos c3]
          refine g_tabIn (off := 45) (tgt := 140) ok dX6_count_95 (by rw [c3]; decide) (by rw [c3]; decide) (by rw [c3]; rfl) (by decide) ?_
          refine g_aload_n (n := 141) ok 3 dX6_count_140 rfl rfl rfl ?_
          refine g_get (n := 144) (v := vi (K5 52 5)) (c := 6) (k := 5) ok dX6_count_141 clsX6 (by decide) q683 rfl rfl rfl ?_
          exact g_iret ok hr dX6_count_144
        · rw [if_neg c3]
          by_cases c4 : what = 1
          · rw [if_pos c4]
            refine g_tabIn (off := 50) (tgt := 145) ok dX6_count_95 (by rw [c4]; decide) (by rw [c4]; decide) (by rw [c4]; rfl) (by decide) ?_
            refine g_iload (n := 147) ok 0 dX6_count_145 rfl rfl ?_
            exact g_iret ok hr dX6_count_147
          · rw [if_neg c4]
            by_cases c5 : what = 2
            · rw [if_pos c5]
              refine g_tabIn (off := 53) (tgt := 148) ok dX6_count_95 (by rw [c5]; decide) (by rw [c5]; decide) (by rw [c5]; rfl) (by decide) ?_
              refine g_aload_n (n := 149) ok 3 dX6_count_148 rfl rfl rfl ?_
              refine g_get (n := 152) (v := vi (K5 52 3)) (c := 6) (k := 3) ok dX6_count_149 clsX6 (by decide) q681 rfl rfl rfl ?_
              exact g_iret ok hr dX6_count_152
            · rw [if_neg c5]
              by_cases c6 : what = 3
              · rw [if_pos c6]
                refine g_tabIn (off := 58) (tgt := 153) ok dX6_count_95 (by rw [c6]; decide) (by rw [c6]; decide) (by rw [c6]; rfl) (by decide) ?_
                refine g_aload_n (n := 154) ok 3 dX6_count_153 rfl rfl rfl ?_
                refine g_get (n := 157) (v := vi (K5 52 4)) (c := 6) (k := 4) ok dX6_count_154 clsX6 (by decide) q682 rfl rfl rfl ?_
                exact g_iret ok hr dX6_count_157
              · rw [if_neg c6]
                by_cases c7 : what = 4
                · rw [if_pos c7]
                  refine g_tabIn (off := 63) (tgt := 158) ok dX6_count_95 (by rw [c7]; decide) (by rw [c7]; decide) (by rw [c7]; rfl) (by decide) ?_
                  refine g_iload_n (n := 159) ok 2 dX6_count_158 rfl rfl rfl ?_
                  exact g_iret ok hr dX6_count_159
                · rw [if_neg c7]
                  by_cases c8 : what = 5
                  · rw [if_pos c8]
                    refine g_tabIn (off := 65) (tgt := 160) ok dX6_count_95 (by rw [c8]; decide) (by rw [c8]; decide) (by rw [c8]; rfl) (by decide) ?_
                    refine g_iload_n (n := 161) ok 1 dX6_count_160 rfl rfl rfl ?_
                    exact g_iret ok hr dX6_count_161
                  · rw [if_neg c8]
                    by_cases c9 : what = 6
                    · rw [if_pos c9]
                      refine g_tabIn (off := 67) (tgt := 162) ok dX6_count_95 (by rw [c9]; decide) (by rw [c9]; decide) (by rw [c9]; rfl) (by decide) ?_
                      refine g_aload_n (n := 163) ok 3 dX6_count_162 rfl rfl rfl ?_
                      refine g_get (n := 166) (v := vi (K5 52 13)) (c := 6) (k := 13) ok dX6_count_163 clsX6 (by decide) q691 rfl rfl rfl ?_
                      exact g_iret ok hr dX6_count_166
                    · rw [if_neg c9]
                      by_cases c10 : what = 7
                      · rw [if_pos c10]
                        refine g_tabIn (off := 72) (tgt := 167) ok dX6_count_95 (by rw [c10]; decide) (by rw [c10]; decide) (by rw [c10]; rfl) (by decide) ?_
                        refine g_aload_n (n := 168) ok 3 dX6_count_167 rfl rfl rfl ?_
                        refine g_get (n := 171) (v := vi (K5 52 27)) (c := 6) (k := 27) ok dX6_count_168 clsX6 (by decide) q705 rfl rfl rfl ?_
                        exact g_iret ok hr dX6_count_171
                      · rw [if_neg c10]
                        refine g_tabOut (tgt := 172) ok dX6_count_95 (by have h0 : what.toInt ≠ 0 := ne_toInt c3; have h1 : what.toInt ≠ 1 := ne_toInt c4; have h2 : what.toInt ≠ 2 := ne_toInt c5; have h3 : what.toInt ≠ 3 := ne_toInt c6; have h4 : what.toInt ≠ 4 := ne_toInt c7; have h5 : what.toInt ≠ 5 := ne_toInt c8; have h6 : what.toInt ≠ 6 := ne_toInt c9; have h7 : what.toInt ≠ 7 := ne_toInt c10; omega) (by decide) ?_
                        refine g_iload_n (n := 173) ok 4 dX6_count_172 rfl rfl rfl ?_
                        refine g_i2l (n := 174) ok dX6_count_173 rfl ?_
                        refine g_ldc2_w (n := 177) ok dX6_count_174 q1100 rfl ?_
                        refine g_ldc2_w (n := 180) ok dX6_count_177 q1101 rfl ?_
                        refine g_callS (n := 183) (rest := []) (av := [vl what.toInt64, vl 20, vl 24]) ok (kX6_in K5 what.toInt64 20 24) knX6_in q792 q793 dX6_count_180 rfl rfl (Nat.le_of_ble_eq_true rfl) (by decide) (by decide) rfl ?_
                        refine g_if_eq (n := 186) (tgt := 198) ok dX6_count_183 (by decide) rfl (fun c11 => ?_) (fun c11 => ?_)
                        · rw [if_pos c11]
                          refine g_iload_n (n := 199) ok 4 dX6_count_198 rfl rfl rfl ?_
                          refine g_i2l (n := 200) ok dX6_count_199 rfl ?_
                          refine g_ldc2_w (n := 203) ok dX6_count_200 q840 rfl ?_
                          refine g_ldc2_w (n := 206) ok dX6_count_203 q1102 rfl ?_
                          refine g_callS (n := 209) (rest := []) (av := [vl what.toInt64, vl 11, vl 16]) ok (kX6_in K5 what.toInt64 11 16) knX6_in q792 q793 dX6_count_206 rfl rfl (Nat.le_of_ble_eq_true rfl) (by decide) (by decide) rfl ?_
                          refine g_if_eq (n := 212) (tgt := 224) ok dX6_count_209 (by decide) rfl (fun c12 => ?_) (fun c12 => ?_)
                          · rw [if_pos c12]
                            refine g_bipush (n := 226) (v := -9) ok dX6_count_224 rfl rfl ?_
                            exact g_iret ok hr dX6_count_226
                          · rw [if_neg c12]
                            have ha13 : vp_in what 17 := in6_in2 (a := 11) (b := 16) c12 (by omega) (by omega)
                            have ha13b := vb ha13
                            have hx14 := in6_ge (a := 11) (b := 16) c12 (by omega) (by omega)
                            refine g_aload_n (n := 213) ok 3 dX6_count_212 rfl rfl rfl ?_
                            refine g_get (n := 216) (v := vr 60) (c := 6) (k := 11) ok dX6_count_213 clsX6 (by decide) q689 rfl rfl rfl ?_
                            refine g_iload_n (n := 217) ok 4 dX6_count_216 rfl rfl rfl ?_
                            refine g_bipush (n := 219) (v := 10) ok dX6_count_217 rfl rfl ?_
                            refine g_isub (n := 220) ok dX6_count_219 rfl ?_
                            refine g_top (nv_isub (a := ix what) (b := 10) (vx ha13) rfl (by omega)) ?_
                            refine g_iald (n := 221) (i := (ix what) - 10) (L := 7) ok dX6_count_220 rfl rfl rfl (by omega) rfl ?_
                            refine g_goto (tgt := 226) ok dX6_count_221 (by decide) ?_
                            exact g_iret ok hr dX6_count_226
                        · rw [if_neg c11]
                          have ha15 : vp_in what 25 := in6_in2 (a := 20) (b := 24) c11 (by omega) (by omega)
                          have ha15b := vb ha15
                          have hx16 := in6_ge (a := 20) (b := 24) c11 (by omega) (by omega)
                          refine g_aload_n (n := 187) ok 3 dX6_count_186 rfl rfl rfl ?_
                          refine g_get (n := 190) (v := vr 55) (c := 6) (k := 2) ok dX6_count_187 clsX6 (by decide) q680 rfl rfl rfl ?_
                          refine g_iload_n (n := 191) ok 4 dX6_count_190 rfl rfl rfl ?_
                          refine g_bipush (n := 193) (v := 20) ok dX6_count_191 rfl rfl ?_
                          refine g_isub (n := 194) ok dX6_count_193 rfl ?_
                          refine g_top (nv_isub (a := ix what) (b := 20) (vx ha15) rfl (by omega)) ?_
                          refine g_iald (n := 195) (i := (ix what) - 20) (L := 5) ok dX6_count_194 rfl rfl rfl (by omega) rfl ?_
                          refine g_goto (tgt := 226) ok dX6_count_195 (by decide) ?_
                          exact g_iret ok hr dX6_count_226
      have L59 : ∀ (n59 i59 : Nat) (x59_4 : Int32) (hi : i59 + n59 = ix (K5 52 5)), G E 6 ((some (vi (((fX6_count_x59 what K5 x12_3 x12_2 (fo n59 i59 (fun (i : Nat) (s : Int32) => fX6_count_b59 K5 i s) x59_4)).1))), (fX6_count_x59 what K5 x12_3 x12_2 (fo n59 i59 (fun (i : Nat) (s : Int32) => fX6_count_b59 K5 i s) x59_4)).2)) K5 59 [(5, vi (nI i59)), (4, vi x59_4), (3, vi x12_3), (2, vi x12_2), (0, vr 52), (1, vi what)] [] := by
        intro n59
        induction n59 with
        | zero =>
          intro i59 x59_4 hi
          rw [fo_0]
          refine g_iload (n := 61) ok 0 dX6_count_59 rfl rfl ?_
          refine g_aload_n (n := 62) ok 4 dX6_count_61 rfl rfl rfl ?_
          refine g_get (n := 65) (v := vi (K5 52 5)) (c := 6) (k := 5) ok dX6_count_62 clsX6 (by decide) q683 rfl rfl rfl ?_
          refine g_icmp_ge (n := 68) (tgt := 94) ok dX6_count_65 (by decide) rfl (fun c => ?_) (fun c => absurd (nle (a := ix (K5 52 5)) (b := i59) (vx hd2) rfl (by omega) (by omega)) c)
          refine g_sub [1, 2, 3, 4, 5] rfl ?_
          exact X59 _
        | succ n59 ih =>
          intro i59 x59_4 hi
          refine g_iload (n := 61) ok 0 dX6_count_59 rfl rfl ?_
          refine g_aload_n (n := 62) ok 4 dX6_count_61 rfl rfl rfl ?_
          refine g_get (n := 65) (v := vi (K5 52 5)) (c := 6) (k := 5) ok dX6_count_62 clsX6 (by decide) q683 rfl rfl rfl ?_
          refine g_icmp_ge (n := 68) (tgt := 94) ok dX6_count_65 (by decide) rfl (fun c => absurd c (nnle (a := ix (K5 52 5)) (b := i59) (vx hd2) rfl (by omega) (by omega))) (fun c => ?_)
          rw [fo_s]
          show G E 6 ((some (vi (((fX6_count_x59 what K5 x12_3 x12_2 (fo n59 (i59 + 1) (fun (i : Nat) (s : Int32) => fX6_count_b59 K5 i s) (fX6_count_b59 K5 i59 x59_4))).1))), (fX6_count_x59 what K5 x12_3 x12_2 (fo n59 (i59 + 1) (fun (i : Nat) (s : Int32) => fX6_count_b59 K5 i s) (fX6_count_b59 K5 i59 x59_4))).2)) _ _ _ _
          rw [fX6_count_b59]
          refine g_iload (n := 70) ok 1 dX6_count_68 rfl rfl ?_
          refine g_aload_n (n := 71) ok 4 dX6_count_70 rfl rfl rfl ?_
          refine g_get (n := 74) (v := vr 56) (c := 6) (k := 6) ok dX6_count_71 clsX6 (by decide) q684 rfl rfl rfl ?_
          refine g_iload (n := 76) ok 0 dX6_count_74 rfl rfl ?_
          refine g_iald (n := 77) (i := i59) (L := 27) ok dX6_count_76 rfl rfl rfl (by omega) rfl ?_
          refine g_if_ne (n := 80) (tgt := 84) ok dX6_count_77 (by decide) rfl (fun c17 => ?_) (fun c17 => ?_)
          · rw [if_neg c17]
            refine g_iconst (n := 85) (v := 0) ok dX6_count_84 rfl rfl ?_
            refine g_iadd (n := 86) ok dX6_count_85 rfl ?_
            refine g_istore (n := 88) (lv' := [(4, vi (x59_4 + 0)), (5, vi (nI i59)), (3, vi x12_3), (2, vi x12_2), (0, vr 52), (1, vi what)]) ok dX6_count_86 (by decide) rfl rfl ?_
            refine g_iinc (n := 91) (v := nI (i59 + 1)) (lv' := [(5, vi (nI (i59 + 1))), (4, vi (x59_4 + 0)), (3, vi x12_3), (2, vi x12_2), (0, vr 52), (1, vi what)]) ok 1 dX6_count_88 rfl (iinc_n (a := i59) rfl) (by decide) rfl rfl ?_
            refine g_goto (tgt := 59) ok dX6_count_91 (by decide) ?_
            exact ih (i59 + 1) (x59_4 + 0) (by omega)
          · rw [if_pos c17]
            refine g_iconst (n := 81) (v := 1) ok dX6_count_80 rfl rfl ?_
            refine g_goto (tgt := 85) ok dX6_count_81 (by decide) ?_
            refine g_iadd (n := 86) ok dX6_count_85 rfl ?_
            refine g_istore (n := 88) (lv' := [(4, vi (x59_4 + 1)), (5, vi (nI i59)), (3, vi x12_3), (2, vi x12_2), (0, vr 52), (1, vi what)]) ok dX6_count_86 (by decide) rfl rfl ?_
            refine g_iinc (n := 91) (v := nI (i59 + 1)) (lv' := [(5, vi (nI (i59 + 1))), (4, vi (x59_4 + 1)), (3, vi x12_3), (2, vi x12_2), (0, vr 52), (1, vi what)]) ok 1 dX6_count_88 rfl (iinc_n (a := i59) rfl) (by decide) rfl rfl ?_
            refine g_goto (tgt := 59) ok dX6_count_91 (by decide) ?_
            exact ih (i59 + 1) (x59_4 + 1) (by omega)
      exact L59 (ix (K5 52 5)) 0 0 (by omega)
    have L12 : ∀ (n12 i12 : Nat) (x12_3 : Int32) (x12_2 : Int32) (hi : i12 + n12 = 24), G E 6 ((some (vi ((((fun (s : Int32 × Int32) => fX6_count_x12 what K5 s.1 s.2) (fo n12 i12 (fun (i : Nat) (s : Int32 × Int32) => fX6_count_b12 K5 i s.1 s.2) (x12_3, x12_2))).1))), ((fun (s : Int32 × Int32) => fX6_count_x12 what K5 s.1 s.2) (fo n12 i12 (fun (i : Nat) (s : Int32 × Int32) => fX6_count_b12 K5 i s.1 s.2) (x12_3, x12_2))).2)) K5 12 [(4, vi (nI i12)), (3, vi x12_3), (2, vi x12_2), (0, vr 52), (1, vi what)] [] := by
      intro n12
      induction n12 with
      | zero =>
        intro i12 x12_3 x12_2 hi
        rw [fo_0]
        refine g_iload (n := 14) ok 0 dX6_count_12 rfl rfl ?_
        refine g_bipush (n := 16) (v := 24) ok dX6_count_14 rfl rfl ?_
        refine g_icmp_ge (n := 19) (tgt := 53) ok dX6_count_16 (by decide) rfl (fun c => ?_) (fun c => absurd (nle (a := 24) (b := i12) rfl rfl (by omega) (by omega)) c)
        refine g_sub [1, 2, 3, 4] rfl ?_
        exact X12 _ _
      | succ n12 ih =>
        intro i12 x12_3 x12_2 hi
        refine g_iload (n := 14) ok 0 dX6_count_12 rfl rfl ?_
        refine g_bipush (n := 16) (v := 24) ok dX6_count_14 rfl rfl ?_
        refine g_icmp_ge (n := 19) (tgt := 53) ok dX6_count_16 (by decide) rfl (fun c => absurd c (nnle (a := 24) (b := i12) rfl rfl (by omega) (by omega))) (fun c => ?_)
        rw [fo_s]
        show G E 6 ((some (vi ((((fun (s : Int32 × Int32) => fX6_count_x12 what K5 s.1 s.2) (fo n12 (i12 + 1) (fun (i : Nat) (s : Int32 × Int32) => fX6_count_b12 K5 i s.1 s.2) (fX6_count_b12 K5 i12 x12_3 x12_2))).1))), ((fun (s : Int32 × Int32) => fX6_count_x12 what K5 s.1 s.2) (fo n12 (i12 + 1) (fun (i : Nat) (s : Int32 × Int32) => fX6_count_b12 K5 i s.1 s.2) (fX6_count_b12 K5 i12 x12_3 x12_2))).2)) _ _ _ _
        rw [fX6_count_b12]
        refine g_iload_n (n := 20) ok 2 dX6_count_19 rfl rfl rfl ?_
        refine g_aload_n (n := 21) ok 3 dX6_count_20 rfl rfl rfl ?_
        refine g_get (n := 24) (v := vr 53) (c := 6) (k := 0) ok dX6_count_21 clsX6 (by decide) q678 rfl rfl rfl ?_
        refine g_iload (n := 26) ok 0 dX6_count_24 rfl rfl ?_
        refine g_iald (n := 27) (i := i12) (L := 24) ok dX6_count_26 rfl rfl rfl (by omega) rfl ?_
        refine g_iadd (n := 28) ok dX6_count_27 rfl ?_
        refine g_istore_n (n := 29) (lv' := [(2, vi (x12_2 + (K5 53 i12))), (4, vi (nI i12)), (3, vi x12_3), (0, vr 52), (1, vi what)]) ok dX6_count_28 rfl (by decide) rfl rfl ?_
        refine g_iload_n (n := 30) ok 2 dX6_count_29 rfl rfl rfl ?_
        refine g_aload_n (n := 31) ok 3 dX6_count_30 rfl rfl rfl ?_
        refine g_get (n := 34) (v := vr 54) (c := 6) (k := 1) ok dX6_count_31 clsX6 (by decide) q679 rfl rfl rfl ?_
        refine g_iload (n := 36) ok 1 dX6_count_34 rfl rfl ?_
        refine g_iald (n := 37) (i := i12) (L := 24) ok dX6_count_36 rfl rfl rfl (by omega) rfl ?_
        refine g_if_le (n := 40) (tgt := 44) ok dX6_count_37 (by decide) rfl (fun c18 => ?_) (fun c18 => ?_)
        · rw [if_pos c18]
          refine g_iconst (n := 45) (v := 0) ok dX6_count_44 rfl rfl ?_
          refine g_iadd (n := 46) ok dX6_count_45 rfl ?_
          refine g_istore_n (n := 47) (lv' := [(3, vi (x12_3 + 0)), (2, vi (x12_2 + (K5 53 i12))), (4, vi (nI i12)), (0, vr 52), (1, vi what)]) ok dX6_count_46 rfl (by decide) rfl rfl ?_
          refine g_iinc (n := 50) (v := nI (i12 + 1)) (lv' := [(4, vi (nI (i12 + 1))), (3, vi (x12_3 + 0)), (2, vi (x12_2 + (K5 53 i12))), (0, vr 52), (1, vi what)]) ok 2 dX6_count_47 rfl (iinc_n (a := i12) rfl) (by decide) rfl rfl ?_
          refine g_goto (tgt := 12) ok dX6_count_50 (by decide) ?_
          exact ih (i12 + 1) (x12_3 + 0) (x12_2 + (K5 53 i12)) (by omega)
        · rw [if_neg c18]
          refine g_iconst (n := 41) (v := 1) ok dX6_count_40 rfl rfl ?_
          refine g_goto (tgt := 45) ok dX6_count_41 (by decide) ?_
          refine g_iadd (n := 46) ok dX6_count_45 rfl ?_
          refine g_istore_n (n := 47) (lv' := [(3, vi (x12_3 + 1)), (2, vi (x12_2 + (K5 53 i12))), (4, vi (nI i12)), (0, vr 52), (1, vi what)]) ok dX6_count_46 rfl (by decide) rfl rfl ?_
          refine g_iinc (n := 50) (v := nI (i12 + 1)) (lv' := [(4, vi (nI (i12 + 1))), (3, vi (x12_3 + 1)), (2, vi (x12_2 + (K5 53 i12))), (0, vr 52), (1, vi what)]) ok 2 dX6_count_47 rfl (iinc_n (a := i12) rfl) (by decide) rfl rfl ?_
          refine g_goto (tgt := 12) ok dX6_count_50 (by decide) ?_
          exact ih (i12 + 1) (x12_3 + 1) (x12_2 + (K5 53 i12)) (by omega)
    exact L12 24 0 0 0 (by omega)
  exact C5_19 _ (by rw [up_k (by omega)]; exact hd)
